/** Each promise of the document by calls whose answers were worked out by hand. */
public final class PromisesTest {
    private static int wrong = 0;
    private static String promise = "";

    public static void main(String[] args) {
        newObject();
        row();
        drop();
        turn();
        swap();
        lift();
        begin();
        toss();
        join();
        once();
        rowOf();
        throwAt();
        isClean();
        stateOf();
        juggler();
        could();
        joinTo();
        joinThrow();
        between();
        ranked();
        tellRow();
        tellState();
        tellJoin();
        sign();
        append();
        read();
        readGrammar();
        readOfLiftedClash();
        refusal();
        account();
        isWell();
        mean();
        undo();
        undoOfEachChange();
        errorsAreNoChanges();
        save();
        restore();
        constants();
        System.out.println(wrong == 0 ? "all promises hold" : wrong + " answers are wrong");
        if (wrong != 0) {
            System.exit(1);
        }
    }

    private static void due(String call, int got, int want) {
        if (got != want) {
            wrong++;
            System.out.println(promise + ": " + call + " answered " + got + ", due is " + want);
        }
    }

    private static void dueLine(String call, JugglingRows x, int answer, String want) {
        due(call, answer, want.length());
        for (int index = 0; index < want.length(); index++) {
            due(call + " sign " + index, x.sign(index), want.charAt(index));
        }
        due(call + " behind its end", x.sign(want.length()), JugglingRows.NONE);
    }

    private static void dueRefusal(JugglingRows x, int reason, int detail, int command) {
        due("the reason", x.refusal(0), reason);
        due("the detail", x.refusal(1), detail);
        due("the command", x.refusal(2), command);
    }

    private static void dueRow(JugglingRows x, int row, String want) {
        due("the length of row " + row, x.rowOf(row, 0), want.length());
        for (int beat = 0; beat < want.length(); beat++) {
            due("throwAt(" + row + ", " + beat + ")", x.throwAt(row, beat), want.charAt(beat) - '0');
        }
    }

    private static int readText(JugglingRows x, String text) {
        for (int index = 0; index < text.length(); index++) {
            due("append to " + text, x.append(text.charAt(index)), index + 1);
        }
        int answer = x.read();
        due("the text behind " + text, x.account(9), 0);
        return answer;
    }

    private static void newObject() {
        promise = "1, a new object";
        JugglingRows x = new JugglingRows();
        for (int what = 0; what <= 10; what++) {
            due("account(" + what + ")", x.account(what), 0);
        }
        for (int what = 0; what <= 4; what++) {
            due("juggler(" + what + ")", x.juggler(what), 0);
        }
        due("undo", x.undo(), -4);
        due("restore", x.restore(), -4);
        due("refusal", x.refusal(0), -4);
        due("sign", x.sign(0), -1);
    }

    private static void row() {
        promise = "2, row";
        JugglingRows x = new JugglingRows();
        due("no throws", x.row(0, 0), -2);
        due("nine throws", x.row(1, 9), -2);
        due("least many", x.row(0, Integer.MIN_VALUE), -2);
        due("most many", x.row(0, Integer.MAX_VALUE), -2);
        due("below 0", x.row(-1, 3), -2);
        due("more digits", x.row(1000, 3), -2);
        due("nine digits", x.row(100000000, 8), -2);
        due("greatest", x.row(Integer.MAX_VALUE, 8), -2);
        due("eight nines", x.row(99999999, 8), 0);
        due("zeros ahead", x.row(51, 4), 1);
        due("nothing but zeros", x.row(0, 8), 2);
        due("one", x.row(9, 1), 3);
        due("one that clashes", x.row(321, 3), 4);
        due("the last", x.row(999, 3), 5);
        dueRow(x, 0, "99999999");
        dueRow(x, 1, "0051");
        dueRow(x, 2, "00000000");
        dueRow(x, 3, "9");
        due("BAD ahead of REFUSED", x.row(10, 1), -2);
        due("no refusal by BAD", x.refusal(0), -4);
        due("the seventh", x.row(3, 1), -3);
        dueRefusal(x, 1, 6, -4);
        due("rows", x.account(0), 6);
    }

    private static void drop() {
        promise = "3, drop";
        JugglingRows x = new JugglingRows();
        due("of none", x.drop(0), -1);
        x.row(1, 1);
        x.row(22, 2);
        x.row(333, 3);
        due("below", x.drop(-1), -1);
        due("above", x.drop(3), -1);
        due("far above", x.drop(Integer.MAX_VALUE), -1);
        due("far below", x.drop(Integer.MIN_VALUE), -1);
        due("the middle", x.drop(1), 2);
        dueRow(x, 0, "1");
        dueRow(x, 1, "333");
        due("the old last", x.throwAt(2, 0), -1);
        due("a new one", x.row(4444, 4), 2);
        dueRow(x, 1, "333");
        dueRow(x, 2, "4444");
        due("the last", x.drop(2), 2);
        due("the first", x.drop(0), 1);
        dueRow(x, 0, "333");
        due("the only", x.drop(0), 0);
    }

    private static void turn() {
        promise = "4, turn";
        JugglingRows x = new JugglingRows();
        due("of none", x.turn(0), -1);
        x.row(531, 3);
        x.row(7, 1);
        x.row(321, 3);
        due("turn", x.turn(0), 3);
        dueRow(x, 0, "315");
        due("again", x.turn(0), 1);
        due("and again", x.turn(0), 5);
        dueRow(x, 0, "531");
        due("of one throw", x.turn(1), 7);
        due("that is a change", x.account(10), 7);
        due("one that clashes", x.turn(2), 2);
        due("below", x.turn(-1), -1);
        due("above", x.turn(3), -1);
    }

    private static void swap() {
        promise = "5, swap";
        JugglingRows x = new JugglingRows();
        due("of none", x.swap(0, 0, 0), -1);
        x.row(333, 3);
        due("no such row", x.swap(1, 0, 1), -1);
        due("no beat one", x.swap(0, -1, 1), -1);
        due("no beat one, above", x.swap(0, 3, 1), -1);
        due("no beat other", x.swap(0, 0, 3), -1);
        due("no beat other, below", x.swap(0, 0, -1), -1);
        due("swap", x.swap(0, 0, 2), 5);
        dueRow(x, 0, "531");
        due("the same", x.swap(0, 1, 1), -3);
        dueRefusal(x, 7, 1, -4);
        due("behind", x.swap(0, 2, 0), -3);
        dueRefusal(x, 7, 2, -4);
        due("a row that clashes", x.row(321, 3), 1);
        due("its swap", x.swap(1, 0, 1), 3);
        dueRow(x, 1, "321");
        x.row(99, 2);
        due("above 9", x.swap(2, 0, 1), -3);
        dueRefusal(x, 2, 0, -4);
        x.row(100, 3);
        due("below 0", x.swap(3, 0, 2), -3);
        dueRefusal(x, 2, 2, -4);
        x.row(9019, 4);
        due("above and below", x.swap(4, 1, 3), -3);
        dueRefusal(x, 2, 1, -4);
        dueRow(x, 4, "9019");
        due("7 ahead of 2", x.swap(4, 3, 1), -3);
        dueRefusal(x, 7, 3, -4);
        x.row(10000002, 8);
        due("to the edge", x.swap(5, 0, 7), -3);
        dueRefusal(x, 2, 7, -4);
        x.drop(4);
        x.row(3333, 4);
        due("beats further on", x.swap(5, 1, 3), 5);
        dueRow(x, 5, "3531");
        due("beats side by side", x.swap(5, 2, 3), 2);
        dueRow(x, 5, "3522");
        x.drop(5);
        x.row(70000002, 8);
        due("to 9 and 0", x.swap(5, 0, 7), 9);
        dueRow(x, 5, "90000000");
    }

    private static void lift() {
        promise = "6, lift";
        JugglingRows x = new JugglingRows();
        due("of none", x.lift(0), -1);
        x.row(531, 3);
        due("clean", x.lift(0), 4);
        dueRow(x, 0, "642");
        x.row(321, 3);
        due("clashing", x.lift(1), -4);
        dueRow(x, 1, "432");
        due("that is a change", x.account(10), 4);
        due("undone", x.undo(), 3);
        dueRow(x, 1, "321");
        x.row(1939, 4);
        due("above 9", x.lift(2), -3);
        dueRefusal(x, 2, 1, -4);
        dueRow(x, 2, "1939");
        x.row(8, 1);
        due("to 9", x.lift(3), 9);
        x.row(90, 2);
        due("above 9 at once", x.lift(4), -3);
        dueRefusal(x, 2, 0, -4);
        dueRow(x, 4, "90");
        due("below", x.lift(-1), -1);
        due("above", x.lift(5), -1);
    }

    private static void begin() {
        promise = "7, begin";
        JugglingRows x = new JugglingRows();
        due("with none", x.begin(0), -2);
        due("with nine", x.begin(9), -2);
        due("with less", x.begin(-1), -2);
        due("with eight", x.begin(8), 255);
        due("with one", x.begin(1), 1);
        x.toss(9);
        x.toss(0);
        due("beats", x.juggler(2), 2);
        due("anew", x.begin(3), 7);
        due("beats anew", x.juggler(2), 0);
        due("hand anew", x.juggler(3), 0);
        due("throws go on", x.account(4), 2);
        due("begun", x.account(8), 3);
        due("the highest goes on", x.account(6), 9);
    }

    private static void toss() {
        promise = "8, toss";
        JugglingRows x = new JugglingRows();
        due("below", x.toss(-1), -2);
        due("above", x.toss(10), -2);
        due("without balls", x.toss(0), -3);
        dueRefusal(x, 6, 0, -4);
        x.begin(2);
        due("a throw of 0 with a ball", x.toss(0), -3);
        dueRefusal(x, 4, 3, -4);
        due("onto a ball", x.toss(1), -3);
        due("a throw", x.toss(2), 0);
        due("state", x.juggler(0), 3);
        due("the other hand", x.toss(9), 1);
        due("state", x.juggler(0), 257);
        due("the first hand", x.toss(8), -3);
        dueRefusal(x, 4, 257, -4);
        due("the first hand", x.toss(1), 0);
        due("state", x.juggler(0), 129);
        due("a throw of 9", x.toss(9), 1);
        due("state", x.juggler(0), 320);
        due("no ball now", x.toss(1), -3);
        due("a throw of 0", x.toss(0), 0);
        due("state", x.juggler(0), 160);
        due("BAD ahead of REFUSED", new JugglingRows().toss(10), -2);
    }

    private static void join() {
        promise = "9, join";
        JugglingRows x = new JugglingRows();
        due("of none", x.join(0), -1);
        x.row(0, 1);
        x.row(321, 3);
        x.row(51, 2);
        x.row(3, 1);
        due("without balls", x.join(0), -3);
        dueRefusal(x, 6, 0, -4);
        due("without balls, clashing", x.join(1), -3);
        dueRefusal(x, 6, 0, -4);
        x.begin(3);
        due("clashing", x.join(1), -3);
        dueRefusal(x, 3, 0, -4);
        due("other balls", x.join(0), -3);
        dueRefusal(x, 5, 0, -4);
        due("below", x.join(-1), -1);
        due("above", x.join(4), -1);
        due("of no throws", x.join(3), 0);
        due("which is a join", x.account(7), 1);
        due("and a change", x.account(10), 6);
        due("of one", x.join(2), 1);
        due("state", x.juggler(0), 11);
        due("beats", x.juggler(2), 1);
        due("thrown", x.account(4), 1);
        due("highest", x.account(6), 4);
        x.row(53210, 5);
        due("the lowest clash", x.rowOf(4, 3), 1);
        due("a clash higher up", x.join(4), -3);
        dueRefusal(x, 3, 1, -4);
        x.begin(1);
        x.toss(9);
        x.row(1, 1);
        due("zeros are throws of a join", x.join(5), 8);
        due("thrown", x.account(4), 10);
        due("of a ball", x.account(5), 2);
    }

    private static void once() {
        promise = "10, once";
        JugglingRows x = new JugglingRows();
        due("of none", x.once(0), -1);
        x.row(51, 2);
        x.row(321, 3);
        x.row(2, 1);
        x.row(9001, 4);
        due("without balls", x.once(1), -3);
        dueRefusal(x, 6, 0, -4);
        x.begin(3);
        due("clashing", x.once(1), -3);
        dueRefusal(x, 3, 0, -4);
        due("other balls", x.once(2), -3);
        dueRefusal(x, 5, 2, -4);
        due("another state", x.once(0), -3);
        dueRefusal(x, 4, 7, -4);
        due("nothing thrown", x.account(4), 0);
        x.join(0);
        due("its state", x.once(0), 2);
        due("state", x.juggler(0), 11);
        due("beats", x.juggler(2), 3);
        due("highest", x.account(6), 5);
        due("above", x.once(4), -1);
        due("below", x.once(-1), -1);
        x.row(40, 2);
        x.begin(2);
        due("to its state", x.join(4), 1);
        due("with zeros", x.once(4), 2);
        due("thrown", x.account(4), 6);
        due("of a ball", x.account(5), 5);
    }

    private static void rowOf() {
        promise = "11, rowOf";
        JugglingRows x = new JugglingRows();
        due("of none", x.rowOf(0, 9), -1);
        x.row(97531, 5);
        int[] wants = {5, 25, 5, -4, 5, 9, 5, 1};
        for (int what = 0; what < wants.length; what++) {
            due("97531: " + what, x.rowOf(0, what), wants[what]);
        }
        due("below", x.rowOf(0, -1), -2);
        due("above", x.rowOf(0, 8), -2);
        due("no row", x.rowOf(1, 0), -1);
        due("no row", x.rowOf(-1, 0), -1);
        x.row(51515151, 8);
        due("period of four times 51", x.rowOf(1, 4), 2);
        x.row(51205120, 8);
        due("period of twice 5120", x.rowOf(2, 4), 4);
        x.row(343, 3);
        due("its own repeat is no period", x.rowOf(3, 4), 3);
        x.row(445353, 6);
        due("which is clean", x.rowOf(4, 2), 4);
        int[] mixed = {6, 24, 4, -4, 6, 5, 4, 0};
        for (int what = 0; what < mixed.length; what++) {
            due("445353: " + what, x.rowOf(4, what), mixed[what]);
        }
        x.row(53210, 5);
        int[] clashing = {5, 11, -4, 1, 5, 5, 3, -4};
        for (int what = 0; what < clashing.length; what++) {
            due("53210: " + what, x.rowOf(5, what), clashing[what]);
        }
        x.drop(5);
        int[] alike = {312, 120, 12};
        for (int told : alike) {
            x.row(told, 3);
            due("two states alike in " + told, x.rowOf(5, 7), 0);
            x.drop(5);
        }
        x.row(333, 3);
        due("the beats up to the period alone", x.rowOf(5, 7), 1);
        due("333's period", x.rowOf(5, 4), 1);
    }

    private static void throwAt() {
        promise = "12, throwAt";
        JugglingRows x = new JugglingRows();
        due("of none", x.throwAt(0, 0), -1);
        x.row(12345678, 8);
        x.row(90, 2);
        dueRow(x, 0, "12345678");
        due("behind the row", x.throwAt(0, 8), -1);
        due("ahead of the row", x.throwAt(0, -1), -1);
        due("behind the short row", x.throwAt(1, 2), -1);
        due("no row", x.throwAt(2, 0), -1);
        due("no row", x.throwAt(Integer.MIN_VALUE, Integer.MIN_VALUE), -1);
    }

    private static void isClean() {
        promise = "13 and 14, isClean and isCleanAgain";
        JugglingRows x = new JugglingRows();
        int[] told = {531, 321, 0, 111, 100, 432};
        int[] want = {1, 0, 1, 1, 0, 0};
        for (int row = 0; row < told.length; row++) {
            due("no row yet", x.isClean(row), -1);
            due("no row yet", x.isCleanAgain(row), -1);
            x.row(told[row], 3);
            due("isClean " + told[row], x.isClean(row), want[row]);
            due("isCleanAgain " + told[row], x.isCleanAgain(row), want[row]);
        }
        due("below", x.isClean(-1), -1);
        due("below", x.isCleanAgain(-1), -1);
        x.drop(0);
        x.row(9, 1);
        due("of one throw", x.isClean(5), 1);
        due("of one throw", x.isCleanAgain(5), 1);
        x.drop(0);
        x.row(10, 2);
        due("a throw of 0 can clash", x.isClean(5), 0);
        due("a throw of 0 can clash", x.isCleanAgain(5), 0);
    }

    private static void stateOf() {
        promise = "15, stateOf";
        JugglingRows x = new JugglingRows();
        due("of none", x.stateOf(0, 0), -1);
        x.row(51, 2);
        due("51 at 0", x.stateOf(0, 0), 11);
        due("51 at 1", x.stateOf(0, 1), 21);
        due("behind it", x.stateOf(0, 2), -1);
        due("ahead of it", x.stateOf(0, -1), -1);
        x.row(321, 3);
        due("clashing", x.stateOf(1, 0), -4);
        due("clashing, no beat", x.stateOf(1, 3), -1);
        x.row(9, 1);
        due("9", x.stateOf(2, 0), 511);
        x.row(90000000, 8);
        due("no row has a beat 8", x.stateOf(3, 8), -1);
        due("90000000 clashes", x.stateOf(3, 0), -4);
        x.row(80000000, 8);
        due("80000000 at 0", x.stateOf(4, 0), 1);
        due("80000000 at 1", x.stateOf(4, 1), 128);
        due("80000000 at 7", x.stateOf(4, 7), 2);
        due("no row", x.stateOf(5, 0), -1);
    }

    private static void juggler() {
        promise = "16, juggler";
        JugglingRows x = new JugglingRows();
        due("throws without balls", x.juggler(5), 1);
        x.begin(3);
        x.toss(5);
        int[] wants = {19, 3, 1, 1, 1, 7};
        for (int what = 0; what < wants.length; what++) {
            due("juggler(" + what + ")", x.juggler(what), wants[what]);
        }
        x.toss(9);
        due("beats", x.juggler(2), 2);
        due("the hand", x.juggler(3), 0);
        due("below", x.juggler(-1), -2);
        due("above", x.juggler(6), -2);
        x.begin(1);
        x.toss(2);
        due("no ball now", x.juggler(4), 0);
        due("one throw then", x.juggler(5), 1);
    }

    private static void could() {
        promise = "17, could";
        JugglingRows x = new JugglingRows();
        due("without balls", x.could(0), 0);
        due("no more", x.could(1), -1);
        due("below", x.could(-1), -1);
        x.begin(8);
        due("eight balls", x.could(0), 8);
        due("eight balls", x.could(1), 9);
        due("eight balls", x.could(2), -1);
        x.begin(1);
        for (int place = 0; place < 9; place++) {
            due("one ball " + place, x.could(place), place + 1);
        }
        due("one ball", x.could(9), -1);
        x.toss(4);
        due("no ball now", x.could(0), 0);
        due("no ball now", x.could(1), -1);
    }

    private static void joinTo() {
        promise = "18 and 19, joinTo and joinAgain";
        JugglingRows x = new JugglingRows();
        due("of none", x.joinTo(0), -1);
        due("of none", x.joinAgain(0), -1);
        x.row(0, 1);
        x.row(1, 1);
        x.row(321, 3);
        x.row(51, 2);
        due("zeros without balls", x.joinTo(0), 0);
        due("zeros without balls", x.joinAgain(0), 0);
        due("a row with balls", x.joinTo(1), -4);
        due("a row with balls", x.joinAgain(1), -4);
        due("clashing", x.joinTo(2), -4);
        due("clashing", x.joinAgain(2), -4);
        x.begin(1);
        due("no throws", x.joinTo(1), 0);
        due("no throws", x.joinAgain(1), 0);
        due("other balls", x.joinTo(0), -4);
        due("other balls", x.joinAgain(0), -4);
        x.toss(9);
        due("eight throws", x.joinTo(1), 8);
        due("eight throws", x.joinAgain(1), 8);
        x.begin(3);
        due("one throw", x.joinTo(3), 1);
        due("one throw", x.joinAgain(3), 1);
        due("below", x.joinTo(-1), -1);
        due("above", x.joinAgain(4), -1);
    }

    private static void joinThrow() {
        promise = "20, joinThrow";
        JugglingRows x = new JugglingRows();
        due("of none", x.joinThrow(0, 0), -1);
        x.row(51, 2);
        x.row(321, 3);
        x.row(40, 2);
        due("no join", x.joinThrow(0, 0), -4);
        due("no join, no place", x.joinThrow(0, -1), -4);
        due("clashing, no place", x.joinThrow(1, 99), -4);
        due("no row, no join", x.joinThrow(3, 0), -1);
        x.begin(3);
        due("the throw", x.joinThrow(0, 0), 4);
        due("no place", x.joinThrow(0, 1), -1);
        due("no place", x.joinThrow(0, -1), -1);
        x.begin(2);
        x.toss(9);
        x.toss(9);
        due("many throws", x.joinTo(2), 8);
        for (int place = 0; place < 7; place++) {
            due("place " + place, x.joinThrow(2, place), 0);
        }
        due("the last", x.joinThrow(2, 7), 3);
        due("behind it", x.joinThrow(2, 8), -1);
    }

    private static void between() {
        promise = "21, between";
        JugglingRows x = new JugglingRows();
        due("of none", x.between(0, 0), -1);
        x.row(51, 2);
        x.row(3, 1);
        x.row(321, 3);
        x.row(4, 1);
        x.row(9, 1);
        x.row(80000000, 8);
        due("51 to 3", x.between(0, 1), 1);
        due("3 to 51", x.between(1, 0), 1);
        due("to itself", x.between(0, 0), 0);
        due("9 to itself", x.between(4, 4), 0);
        due("clashing first", x.between(2, 1), -4);
        due("clashing last", x.between(1, 2), -4);
        due("clashing both", x.between(2, 2), -4);
        due("other balls", x.between(1, 3), -4);
        due("no first", x.between(6, 1), -1);
        due("no last", x.between(1, 6), -1);
        due("no last, clashing first", x.between(2, -1), -1);
        x.drop(4);
        x.row(1, 1);
        x.turn(4);
        due("from 00000008", x.between(4, 5), 7);
        due("to 00000008", x.between(5, 4), 1);
    }

    private static void ranked() {
        promise = "22, ranked";
        JugglingRows x = new JugglingRows();
        due("of none", x.ranked(0, 0), -1);
        due("no kind ahead of no place", x.ranked(3, 0), -2);
        x.row(321, 3);
        x.row(0, 2);
        x.row(51, 2);
        x.row(7, 1);
        x.row(441, 3);
        x.row(100, 3);
        int[][] wants = {{3, 1, 2, 0, 4, 5}, {3, 2, 4, 1, 0, 5}, {1, 5, 0, 4, 2, 3}};
        for (int kind = 0; kind < 3; kind++) {
            for (int place = 0; place < 6; place++) {
                due("ranked(" + kind + ", " + place + ")", x.ranked(kind, place), wants[kind][place]);
            }
            due("behind", x.ranked(kind, 6), -1);
            due("ahead", x.ranked(kind, -1), -1);
        }
        due("below", x.ranked(-1, 0), -2);
        due("above", x.ranked(3, 99), -2);
    }

    private static void tellRow() {
        promise = "23, tellRow";
        JugglingRows x = new JugglingRows();
        due("of none", x.tellRow(0), -1);
        x.row(531, 3);
        x.row(53210, 5);
        x.row(99999999, 8);
        x.row(7, 3);
        dueLine("531", x, x.tellRow(0), "531=3");
        dueLine("53210", x, x.tellRow(1), "53210!1");
        dueLine("99999999", x, x.tellRow(2), "99999999=9");
        dueLine("007", x, x.tellRow(3), "007!0");
        due("no row", x.tellRow(4), -1);
        due("the line stays", x.sign(3), '!');
    }

    private static void tellState() {
        promise = "24, tellState";
        JugglingRows x = new JugglingRows();
        dueLine("no balls", x, x.tellState(), "-");
        x.begin(1);
        dueLine("one ball", x, x.tellState(), "x");
        x.toss(9);
        dueLine("high up", x, x.tellState(), "--------x");
        x.begin(3);
        x.toss(4);
        dueLine("a gap", x, x.tellState(), "xx-x");
        x.begin(8);
        dueLine("eight balls", x, x.tellState(), "xxxxxxxx");
    }

    private static void tellJoin() {
        promise = "25, tellJoin";
        JugglingRows x = new JugglingRows();
        due("of none", x.tellJoin(0), -1);
        x.row(51, 2);
        x.row(1, 1);
        x.row(0, 1);
        dueLine("zeros", x, x.tellJoin(2), "");
        x.begin(3);
        dueLine("to 51", x, x.tellJoin(0), "4");
        due("no join", x.tellJoin(1), -4);
        due("the line stays", x.sign(0), '4');
        due("no row", x.tellJoin(3), -1);
        due("the line stays", x.sign(0), '4');
        x.begin(1);
        x.toss(9);
        dueLine("to 1", x, x.tellJoin(1), "00000000");
        due("nothing thrown", x.account(4), 1);
        due("nothing joined", x.account(7), 0);
        x.begin(1);
        dueLine("of no throws", x, x.tellJoin(1), "");
        joinsWithAChoice();
    }

    /** "64" and "753" would come there too, but with a higher throw ahead. */
    private static void joinsWithAChoice() {
        JugglingRows x = new JugglingRows();
        x.row(50055, 5);
        due("50055 at 0", x.stateOf(0, 0), 25);
        x.begin(3);
        dueLine("to 50055", x, x.tellJoin(0), "55");
        x.turn(0);
        due("00555 at 0", x.stateOf(0, 0), 28);
        dueLine("to 00555", x, x.tellJoin(0), "555");
        due("made", x.join(0), 3);
        due("the state then", x.juggler(0), 28);
        x.row(75319, 5);
        x.begin(5);
        dueLine("by a throw of 9", x, x.tellJoin(1), "9");
        due("as long the other way", x.joinAgain(1), 1);
        x.row(2, 1);
        x.begin(2);
        x.toss(3);
        dueLine("by a throw of 1", x, x.tellJoin(2), "1");
        due("as long the other way", x.joinAgain(2), 1);
    }

    private static void sign() {
        promise = "26, sign";
        JugglingRows x = new JugglingRows();
        due("empty", x.sign(0), -1);
        x.row(531, 3);
        x.tellRow(0);
        due("the first", x.sign(0), '5');
        due("the last", x.sign(4), '3');
        due("behind", x.sign(5), -1);
        due("ahead", x.sign(-1), -1);
        due("far", x.sign(Integer.MAX_VALUE), -1);
        x.undo();
        due("the line is not undone", x.sign(0), '5');
        x.tellState();
        due("in place of the line before", x.sign(1), -1);
    }

    private static void append() {
        promise = "27, append";
        JugglingRows x = new JugglingRows();
        due("below", x.append(31), -2);
        due("above", x.append(127), -2);
        due("least", x.append(32), 1);
        due("most", x.append(126), 2);
        due("far", x.append(65536 + 48), -2);
        for (int length = 3; length <= 70; length++) {
            due("length " + length, x.append('1'), length);
        }
        due("full", x.append('1'), -2);
        due("its length", x.account(9), 70);
        due("its fault", x.read(), -100);
        due("empty then", x.append('1'), 1);
    }

    private static void read() {
        promise = "28, read";
        JugglingRows x = new JugglingRows();
        due("nothing", x.read(), -100);
        due("all commands", readText(x, "531;0051;321;t0;s001;l2;b3;j3;c0;r0;x2"), 11);
        due("one change", x.account(10), 1);
        due("rows", x.account(0), 2);
        dueRow(x, 0, "225");
        dueRow(x, 1, "0051");
        due("beats", x.juggler(2), 5);
        due("joins", x.account(7), 1);
        due("begun", x.account(8), 1);
        due("undone at once", x.undo(), 0);
        due("no rows", x.account(0), 0);
        due("no throws", x.account(4), 0);
        due("no balls", x.juggler(0), 0);
        x.row(3, 1);
        due("another error", readText(x, "5;b0"), -2);
        due("none carried out", x.account(0), 1);
        due("no such row", readText(x, "5;x2"), -2);
        due("no such beat", readText(x, "5;s001"), -2);
        due("refused", readText(x, "5;b3;j0;5"), -3);
        dueRefusal(x, 4, 7, 2);
        due("none carried out", x.account(0), 1);
        due("no balls", x.juggler(0), 0);
        due("no change", x.account(10), 1);
        due("refused for a row it made", readText(x, "51;b3;r1"), -3);
        dueRefusal(x, 4, 7, 2);
        due("too many rows", readText(x, "1;1;1;1;1;1"), -3);
        dueRefusal(x, 1, 6, 5);
        due("a long text", readText(x, "b3;j3;j3;j3;j3;j3;j3;j3;j3;j3;j3;j3;j3;j3;j3;j3;j3;j3;j3;j3;j3;j3;j3"), 23);
        due("throws", x.account(4), 22);
        due("nines", readText(x, "97531;99;x2;b8;j9;j9"), 6);
        dueRow(x, 1, "97531");
        x.undo();
        due("a fault is no change", readText(x, "5;q"), -102);
        due("changes", x.account(10), 2);
    }

    private static void readGrammar() {
        promise = "28, the fault position";
        String[] texts = {";", "5;", "5;;", "x", "xx", "x1x", "s", "s0", "s01", "s01;", "s012;", "s0123", "123456789",
            "12345678;", "12a", " 5", "5 ", "b3;j", "b3;j33", "B3", "5,3", "b;", "r0;c0;l0;t0;j0;x0;z", "5;s12", "00000000;0000000000"};
        int[] faults = {0, 2, 2, 1, 1, 2, 1, 2, 3, 3, 5, 4, 8,
            9, 2, 0, 1, 4, 5, 0, 1, 1, 18, 5, 17};
        for (int number = 0; number < texts.length; number++) {
            JugglingRows x = new JugglingRows();
            due("'" + texts[number] + "'", readText(x, texts[number]), -100 - faults[number]);
            due("no changes by " + texts[number], x.account(10), 0);
            due("no refusals by " + texts[number], x.refusal(0), -4);
        }
    }

    /** NOTHING is what a lifted row has for balls, not an error of the call. */
    private static void readOfLiftedClash() {
        promise = "28, a lifted row that clashes";
        JugglingRows x = new JugglingRows();
        due("lifted", readText(x, "321;l0;l0"), 3);
        dueRow(x, 0, "543");
    }

    private static void refusal() {
        promise = "29, refusal";
        JugglingRows x = new JugglingRows();
        due("nothing refused", x.refusal(0), -4);
        due("nothing refused", x.refusal(1), -4);
        due("nothing refused", x.refusal(2), -4);
        due("below", x.refusal(-1), -2);
        due("above", x.refusal(3), -2);
        x.toss(1);
        dueRefusal(x, 6, 0, -4);
        due("in a text", readText(x, "b2;j0"), -3);
        dueRefusal(x, 4, 3, 1);
        x.begin(1);
        x.undo();
        x.save();
        x.restore();
        dueRefusal(x, 4, 3, 1);
        due("errors keep them", x.begin(0), -2);
        dueRefusal(x, 4, 3, 1);
        x.toss(1);
        dueRefusal(x, 6, 0, -4);
        due("below", x.refusal(-1), -2);
        due("above", x.refusal(3), -2);
    }

    private static void account() {
        promise = "30, account";
        JugglingRows x = new JugglingRows();
        x.row(51, 2);
        x.row(321, 3);
        x.row(9, 1);
        x.begin(3);
        x.join(0);
        x.once(0);
        x.begin(1);
        x.toss(2);
        x.toss(0);
        x.append('5');
        int[] wants = {3, 2, 6, 12, 5, 4, 5, 1, 2, 1, 8};
        for (int what = 0; what < wants.length; what++) {
            due("account(" + what + ")", x.account(what), wants[what]);
        }
        due("below", x.account(-1), -2);
        due("above", x.account(11), -2);
    }

    private static void isWell() {
        promise = "31, isWell";
        JugglingRows x = new JugglingRows();
        due("of none", x.isWell(), 1);
        int[] told = {97531, 321, 0, 51, 9, 80000000};
        int[] many = {5, 3, 1, 2, 1, 8};
        for (int row = 0; row < told.length; row++) {
            x.row(told[row], many[row]);
            due("with " + told[row], x.isWell(), 1);
        }
        x.begin(3);
        x.toss(9);
        due("on the way", x.isWell(), 1);
    }

    private static void mean() {
        promise = "32, mean";
        due("of none", new JugglingRows().mean(), -4);
        for (int rows = 1; rows <= 6; rows++) {
            for (int many = 1; many <= 8; many++) {
                meanOfEachSum(rows, many);
            }
        }
        JugglingRows x = new JugglingRows();
        x.row(0, 8);
        due("of zeros", x.mean(), 0);
        x.row(100, 3);
        due("a part of 1", x.mean(), Float.floatToIntBits(1f / 11f));
        x.drop(0);
        x.drop(0);
        due("of none again", x.mean(), -4);
    }

    private static void meanOfEachSum(int rows, int many) {
        JugglingRows x = new JugglingRows();
        for (int row = 1; row < rows; row++) {
            x.row(0, 8);
        }
        int told = 0;
        int digit = 1;
        for (int sum = 0; sum <= 9 * many; sum++) {
            int last = x.row(told, many);
            int number = (rows - 1) * 8 + many;
            due("mean " + sum + " by " + number, x.mean(), Float.floatToIntBits((float) sum / (float) number));
            x.drop(last);
            if (sum > 0 && sum % 9 == 0) {
                digit *= 10;
            }
            told += digit;
        }
    }

    private static void undo() {
        promise = "33, undo";
        JugglingRows x = new JugglingRows();
        due("nothing", x.undo(), -4);
        x.row(531, 3);
        for (int turns = 0; turns < 9; turns++) {
            x.turn(0);
        }
        due("eight at most", x.account(10), 8);
        for (int left = 7; left >= 0; left--) {
            due("undo", x.undo(), left);
        }
        dueRow(x, 0, "315");
        due("no more", x.undo(), -4);
        dueRow(x, 0, "315");
        x.turn(0);
        due("a change then", x.undo(), 0);
        dueRow(x, 0, "315");
    }

    private static void undoOfEachChange() {
        promise = "33, undo of each change";
        JugglingRows x = new JugglingRows();
        x.row(51, 2);
        x.row(333, 3);
        x.begin(3);
        x.join(0);
        x.once(0);
        x.toss(5);
        x.lift(1);
        x.swap(1, 0, 1);
        due("all of them", x.account(10), 8);
        dueRow(x, 1, "534");
        due("swap", x.undo(), 7);
        dueRow(x, 1, "444");
        due("lift", x.undo(), 6);
        dueRow(x, 1, "333");
        due("toss", x.undo(), 5);
        due("beats", x.juggler(2), 3);
        due("once", x.undo(), 4);
        due("beats", x.juggler(2), 1);
        due("highest", x.account(6), 4);
        due("join", x.undo(), 3);
        due("joins", x.account(7), 0);
        due("state", x.juggler(0), 7);
        due("begin", x.undo(), 2);
        due("state", x.juggler(0), 0);
        due("begun", x.account(8), 0);
        due("row", x.undo(), 1);
        due("rows", x.account(0), 1);
        x.turn(0);
        x.drop(0);
        due("drop", x.undo(), 2);
        dueRow(x, 0, "15");
        due("turn", x.undo(), 1);
        dueRow(x, 0, "51");
        x.begin(2);
        x.toss(3);
        x.begin(4);
        due("the second begin", x.undo(), 3);
        due("its state", x.juggler(0), 5);
    }

    private static void errorsAreNoChanges() {
        promise = "33, errors are no changes";
        JugglingRows x = new JugglingRows();
        x.row(9, 3);
        x.row(1, 9);
        x.drop(1);
        x.turn(1);
        x.swap(0, 0, 9);
        x.swap(0, 2, 1);
        x.lift(1);
        x.lift(0);
        x.begin(0);
        x.toss(10);
        x.toss(1);
        x.join(0);
        x.once(0);
        x.append('x');
        x.append('9');
        x.read();
        due("one change", x.account(10), 1);
        due("undo", x.undo(), 0);
        due("rows", x.account(0), 0);
    }

    private static void save() {
        promise = "34, save";
        JugglingRows x = new JugglingRows();
        due("without rows", x.save(), 0);
        x.row(531, 3);
        due("with a row", x.save(), 1);
        due("is no change", x.account(10), 1);
        x.row(1, 1);
        due("undo", x.undo(), 1);
        due("undo", x.undo(), 0);
        due("the later one", x.restore(), 1);
        dueRow(x, 0, "531");
    }

    private static void restore() {
        promise = "35, restore";
        JugglingRows x = new JugglingRows();
        due("no snapshot", x.restore(), -4);
        x.row(51, 2);
        x.begin(3);
        x.join(0);
        x.toss(5);
        x.save();
        x.once(0);
        x.toss(1);
        x.toss(9);
        x.begin(8);
        x.turn(0);
        x.row(3, 1);
        x.append('5');
        due("restore", x.restore(), 1);
        int[] wants = {1, 1, 2, 3, 2, 2, 5, 1, 1, 1, 0};
        for (int what = 0; what < wants.length; what++) {
            due("account(" + what + ")", x.account(what), wants[what]);
        }
        due("state", x.juggler(0), 21);
        due("beats", x.juggler(2), 2);
        dueRow(x, 0, "51");
        due("nothing to undo", x.undo(), -4);
        due("the text stays", x.append(';'), 2);
        x.turn(0);
        due("it stays", x.restore(), 1);
        dueRow(x, 0, "51");
        due("nothing to undo", x.undo(), -4);
    }

    private static void constants() {
        promise = "the constants";
        due("NONE", JugglingRows.NONE, -1);
        due("BAD", JugglingRows.BAD, -2);
        due("REFUSED", JugglingRows.REFUSED, -3);
        due("NOTHING", JugglingRows.NOTHING, -4);
    }
}
