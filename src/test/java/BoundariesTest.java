/** Each sentence of the promises 1 to 35 that names a boundary case, by a test of its own. */
public final class BoundariesTest {
    private static final int NONE = -1;
    private static final int BAD = -2;
    private static final int REFUSED = -3;
    private static final int NOTHING = -4;
    private static final int LEAST = Integer.MIN_VALUE;
    private static final int MOST = Integer.MAX_VALUE;

    private BoundariesTest() {
    }

    public static void main(String[] args) {
        newObject();
        row();
        drop();
        turn();
        swap();
        lift();
        begin();
        toss();
        join();
        once();
        rowOf();
        throwAt();
        isClean();
        stateOf();
        juggler();
        could();
        joinTo();
        joinThrow();
        between();
        ranked();
        tellRow();
        tellState();
        tellJoin();
        sign();
        append();
        read();
        refusal();
        account();
        isWell();
        mean();
        undo();
        save();
        restore();
        Due.end();
    }

    // ---- 1

    private static void newObject() {
        Due.sentence("1: Creates a juggler without rows and balls");
        JugglingRows x = new JugglingRows();
        for (int what = 0; what <= 10; what++) {
            Due.answer("account(" + what + ")", x.account(what), 0);
        }
        int[] wants = {0, 0, 0, 0, 0, 1};
        for (int what = 0; what < wants.length; what++) {
            Due.answer("juggler(" + what + ")", x.juggler(what), wants[what]);
        }
        Due.answer("a row", x.rowOf(0, 0), NONE);
        Due.answer("two objects are apart", Due.withRows("1").account(0) + x.account(0), 1);
    }

    // ---- 2

    private static void row() {
        rowNumbers();
        manyOutOfRange();
        throwsBelowZero();
        moreDigits();
        zerosAhead();
        rowRefused();
    }

    private static void rowNumbers() {
        Due.sentence("2: Returns its number");
        JugglingRows x = new JugglingRows();
        for (int row = 0; row < 6; row++) {
            Due.answer("row", x.row(row, 1), row);
        }
        x.drop(0);
        Due.answer("behind a drop", x.row(9, 1), 5);
    }

    private static void manyOutOfRange() {
        Due.sentence("2: BAD if the number of throws is out of range");
        JugglingRows x = new JugglingRows();
        int[] outside = {LEAST, -8, -1, 0, 9, 10, 16, MOST};
        for (int many : outside) {
            Due.fails(x, "row of " + many, () -> x.row(0, many), BAD);
        }
        Due.answer("of 1", x.row(0, 1), 0);
        Due.answer("of 8", x.row(0, 8), 1);
    }

    private static void throwsBelowZero() {
        Due.sentence("2: BAD if the throws are below 0");
        JugglingRows x = new JugglingRows();
        int[] below = {LEAST, -99999999, -1};
        for (int told : below) {
            Due.fails(x, "row " + told, () -> x.row(told, 8), BAD);
        }
        Due.answer("row 0", x.row(0, 8), 0);
    }

    private static void moreDigits() {
        Due.sentence("2: BAD if the throws have more digits");
        int least = 10;
        for (int many = 1; many <= 8; many++) {
            int one = many;
            int more = least;
            JugglingRows x = new JugglingRows();
            Due.fails(x, "row " + more + " of " + one, () -> x.row(more, one), BAD);
            Due.fails(x, "the greatest of " + one, () -> x.row(MOST, one), BAD);
            Due.answer("row " + (more - 1) + " of " + one, x.row(more - 1, one), 0);
            Due.row(x, 0, "99999999".substring(0, many));
            least = least * 10;
        }
    }

    private static void zerosAhead() {
        Due.sentence("2: its throws, as the digits of a number, with zeros ahead if need be");
        JugglingRows x = new JugglingRows();
        x.row(0, 1);
        x.row(0, 8);
        x.row(7, 8);
        x.row(51, 3);
        x.row(51, 2);
        x.row(5100, 4);
        String[] rows = {"0", "00000000", "00000007", "051", "51", "5100"};
        for (int row = 0; row < rows.length; row++) {
            Due.row(x, row, rows[row]);
        }
    }

    private static void rowRefused() {
        Due.sentence("2: REFUSED for the reason 1");
        JugglingRows x = Due.withRows("1", "2", "3", "4", "5", "6");
        Due.refused(x, "the seventh", () -> x.row(7, 1), 1, 6);
        Due.answer("BAD comes first", x.row(7, 0), BAD);
        Due.answer("dropped", x.drop(0), 5);
        Due.answer("the sixth again", x.row(7, 1), 5);
    }

    // ---- 3

    private static void drop() {
        Due.sentence("3: Returns how many rows there are then");
        JugglingRows x = Due.withRows("1", "1", "1", "1", "1", "1");
        for (int left = 5; left >= 0; left--) {
            Due.answer("drop", x.drop(left / 2), left);
        }
        dropOfNone();
    }

    private static void dropOfNone() {
        Due.sentence("3: NONE if there is no such row");
        JugglingRows x = new JugglingRows();
        Due.fails(x, "the first of none", () -> x.drop(0), NONE);
        x.row(1, 1);
        x.row(2, 1);
        int[] outside = {LEAST, -1, 2, 6, MOST};
        for (int row : outside) {
            Due.fails(x, "drop " + row, () -> x.drop(row), NONE);
        }
        Due.answer("the last", x.drop(1), 1);
        Due.fails(x, "the dropped one", () -> x.drop(1), NONE);
    }

    // ---- 4

    private static void turn() {
        Due.sentence("4: Returns its first throw then");
        JugglingRows x = Due.withRows("4", "90", "12345678");
        Due.answer("of one throw", x.turn(0), 4);
        Due.answer("of two", x.turn(1), 0);
        Due.answer("of two again", x.turn(1), 9);
        for (int turns = 1; turns <= 8; turns++) {
            Due.answer("of eight", x.turn(2), turns % 8 + 1);
        }
        Due.row(x, 2, "12345678");
        turnOfNone();
    }

    private static void turnOfNone() {
        Due.sentence("4: NONE if there is no such row");
        JugglingRows x = new JugglingRows();
        Due.fails(x, "the first of none", () -> x.turn(0), NONE);
        x.row(12, 2);
        int[] outside = {LEAST, -1, 1, 6, MOST};
        for (int row : outside) {
            Due.fails(x, "turn " + row, () -> x.turn(row), NONE);
        }
    }

    // ---- 5

    private static void swap() {
        Due.sentence("5: Returns the throw of the beat ahead then");
        JugglingRows x = Due.withRows("02", "70000002");
        Due.answer("02", x.swap(0, 0, 1), REFUSED);
        Due.answer("the greatest", x.swap(1, 0, 7), 9);
        Due.answer("the least", x.swap(1, 6, 7), REFUSED);
        x.row(10, 2);
        Due.answer("10", x.swap(2, 0, 1), 1);
        swapOfNoRow();
        swapOfNoBeat();
        swapBehind();
        swapBelowZero();
        swapAboveNine();
    }

    private static void swapOfNoRow() {
        Due.sentence("5: NONE if there is no such row");
        JugglingRows x = new JugglingRows();
        Due.fails(x, "the first of none", () -> x.swap(0, 0, 1), NONE);
        x.row(333, 3);
        int[] outside = {LEAST, -1, 1, 6, MOST};
        for (int row : outside) {
            Due.fails(x, "swap of " + row, () -> x.swap(row, 0, 1), NONE);
        }
    }

    private static void swapOfNoBeat() {
        Due.sentence("5: NONE if there is no such beat");
        JugglingRows x = Due.withRows("333", "9");
        int[] outside = {LEAST, -1, 3, 8, MOST};
        for (int beat : outside) {
            Due.answer("one " + beat, x.swap(0, beat, 1), NONE);
            Due.answer("other " + beat, x.swap(0, 1, beat), NONE);
            Due.answer("both " + beat, x.swap(0, beat, beat), NONE);
        }
        Due.answer("in a row of one throw", x.swap(1, 0, 1), NONE);
        Due.answer("nothing refused", x.refusal(0), NOTHING);
        Due.answer("nothing changed", x.account(10), 2);
    }

    private static void swapBehind() {
        Due.sentence("5: REFUSED for the reason 7");
        JugglingRows x = Due.withRows("9", "333");
        Due.refused(x, "the only beat and itself", () -> x.swap(0, 0, 0), 7, 0);
        Due.refused(x, "a beat and itself", () -> x.swap(1, 2, 2), 7, 2);
        Due.refused(x, "the other way round", () -> x.swap(1, 1, 0), 7, 1);
    }

    private static void swapBelowZero() {
        Due.sentence("5: REFUSED for the reason 2: a throw would be below 0");
        JugglingRows x = Due.withRows("00000000", "40005", "3005");
        Due.refused(x, "1 below", () -> x.swap(0, 0, 1), 2, 1);
        Due.refused(x, "7 below", () -> x.swap(0, 0, 7), 2, 7);
        Due.answer("to 0", x.swap(1, 0, 4), 9);
        Due.row(x, 1, "90000");
        Due.answer("to 0 again", x.swap(2, 0, 3), 8);
        Due.row(x, 2, "8000");
    }

    private static void swapAboveNine() {
        Due.sentence("5: REFUSED for the reason 2: a throw would be above 9");
        JugglingRows x = Due.withRows("99", "98", "0980", "90000009");
        Due.refused(x, "10", () -> x.swap(0, 0, 1), 2, 0);
        Due.answer("to 9", x.swap(1, 0, 1), 9);
        Due.row(x, 1, "98");
        Due.refused(x, "0980", () -> x.swap(2, 0, 2), 2, 0);
        Due.refused(x, "16", () -> x.swap(3, 0, 7), 2, 0);
        Due.answer("0980 side by side", x.swap(2, 1, 2), 9);
    }

    // ---- 6

    private static void lift() {
        Due.sentence("6: Returns its balls then");
        JugglingRows x = Due.withRows("0", "8", "531", "88888888");
        int[] balls = {1, 9, 4, 9};
        for (int row = 0; row < balls.length; row++) {
            Due.answer("lift " + row, x.lift(row), balls[row]);
        }
        liftOfAClash();
        liftOfNone();
        liftRefused();
    }

    private static void liftOfAClash() {
        Due.sentence("6: NOTHING if it is not clean");
        JugglingRows x = Due.withRows("10");
        Due.answer("lift", x.lift(0), NOTHING);
        Due.row(x, 0, "21");
        Due.answer("a change", x.account(10), 2);
        Due.answer("undone", x.undo(), 1);
        Due.row(x, 0, "10");
    }

    private static void liftOfNone() {
        Due.sentence("6: NONE if there is no such row");
        JugglingRows x = new JugglingRows();
        Due.fails(x, "the first of none", () -> x.lift(0), NONE);
        x.row(3, 1);
        int[] outside = {LEAST, -1, 1, 6, MOST};
        for (int row : outside) {
            Due.fails(x, "lift " + row, () -> x.lift(row), NONE);
        }
    }

    private static void liftRefused() {
        Due.sentence("6: REFUSED for the reason 2");
        JugglingRows x = Due.withRows("9", "09", "90", "00000009", "909");
        int[] beats = {0, 1, 0, 7, 0};
        for (int row = 0; row < beats.length; row++) {
            int told = row;
            Due.refused(x, "lift " + told, () -> x.lift(told), 2, beats[told]);
        }
    }

    // ---- 7

    private static void begin() {
        Due.sentence("7: Returns the state");
        JugglingRows x = new JugglingRows();
        Due.answer("with 1", x.begin(1), 1);
        Due.answer("with 8", x.begin(8), 255);
        Due.sentence("7: BAD if the number is out of range");
        int[] outside = {LEAST, -1, 0, 9, 10, 32, MOST};
        for (int balls : outside) {
            Due.fails(x, "begin " + balls, () -> x.begin(balls), BAD);
        }
    }

    // ---- 8

    private static void toss() {
        Due.sentence("8: Returns the hand that makes it");
        JugglingRows x = new JugglingRows();
        x.begin(1);
        Due.answer("the first", x.toss(2), 0);
        Due.answer("the second, of no ball", x.toss(0), 1);
        Due.answer("the third", x.toss(1), 0);
        Due.sentence("8: BAD if the number is not from 0 to 9");
        int[] outside = {LEAST, -1, 10, 31, 32, MOST};
        for (int height : outside) {
            Due.fails(x, "toss " + height, () -> x.toss(height), BAD);
            Due.answer("without balls toss " + height, new JugglingRows().toss(height), BAD);
        }
        tossRefused();
    }

    private static void tossRefused() {
        Due.sentence("8: REFUSED for the reason 6 or 4");
        JugglingRows x = new JugglingRows();
        Due.refused(x, "0 without balls", () -> x.toss(0), 6, 0);
        Due.refused(x, "9 without balls", () -> x.toss(9), 6, 0);
        x.begin(1);
        Due.refused(x, "0 with a ball", () -> x.toss(0), 4, 1);
        x.toss(9);
        Due.refused(x, "1 without a ball now", () -> x.toss(1), 4, 256);
        Due.refused(x, "9 without a ball now", () -> x.toss(9), 4, 256);
        x.begin(8);
        Due.refused(x, "onto the nearest", () -> x.toss(1), 4, 255);
        Due.refused(x, "onto the farthest", () -> x.toss(7), 4, 255);
    }

    // ---- 9

    private static void join() {
        Due.sentence("9: Returns how many throws it has");
        JugglingRows x = Due.withRows("1", "00000008");
        x.begin(1);
        Due.answer("none", x.join(0), 0);
        Due.answer("one", x.join(1), 1);
        Due.answer("seven", x.join(0), 7);
        Due.answer("beats", x.juggler(2), 8);
        x.toss(9);
        Due.answer("eight", x.join(0), 8);
        Due.answer("throws", x.account(4), 17);
        Due.answer("of a ball", x.account(5), 2);
        Due.answer("joins", x.account(7), 4);
        joinOfNone();
        joinRefused();
    }

    private static void joinOfNone() {
        Due.sentence("9: NONE if there is no such row");
        JugglingRows x = new JugglingRows();
        Due.fails(x, "the first of none", () -> x.join(0), NONE);
        x.row(3, 1);
        x.begin(3);
        int[] outside = {LEAST, -1, 1, 6, MOST};
        for (int row : outside) {
            Due.fails(x, "join " + row, () -> x.join(row), NONE);
        }
    }

    private static void joinRefused() {
        Due.sentence("9: REFUSED for the reason 6, 3 or 5");
        JugglingRows x = Due.withRows("0", "21", "2", "9");
        Due.refused(x, "without balls to zeros", () -> x.join(0), 6, 0);
        Due.refused(x, "without balls to a clash", () -> x.join(1), 6, 0);
        x.begin(1);
        Due.refused(x, "to a clash", () -> x.join(1), 3, 0);
        Due.refused(x, "to fewer", () -> x.join(0), 5, 0);
        Due.refused(x, "to more", () -> x.join(2), 5, 2);
    }

    // ---- 10

    private static void once() {
        Due.sentence("10: Returns how many throws it has");
        JugglingRows x = Due.withRows("1", "11111111", "20");
        x.begin(1);
        Due.answer("one", x.once(0), 1);
        Due.answer("eight", x.once(1), 8);
        Due.answer("with a 0", x.once(2), 2);
        Due.answer("beats", x.juggler(2), 11);
        Due.answer("of a ball", x.account(5), 10);
        Due.answer("the state", x.juggler(0), 1);
        Due.answer("the joins", x.account(7), 0);
        onceOfNone();
        onceRefused();
    }

    private static void onceOfNone() {
        Due.sentence("10: NONE if there is no such row");
        JugglingRows x = new JugglingRows();
        Due.fails(x, "the first of none", () -> x.once(0), NONE);
        x.row(3, 1);
        x.begin(3);
        int[] outside = {LEAST, -1, 1, 6, MOST};
        for (int row : outside) {
            Due.fails(x, "once " + row, () -> x.once(row), NONE);
        }
    }

    private static void onceRefused() {
        Due.sentence("10: REFUSED for the reason 6, 3, 5 or 4, if the state is not that of the row at the beat 0");
        JugglingRows x = Due.withRows("0", "21", "9", "31");
        Due.refused(x, "without balls", () -> x.once(0), 6, 0);
        x.begin(2);
        Due.refused(x, "of a clash", () -> x.once(1), 3, 0);
        Due.refused(x, "of more", () -> x.once(2), 5, 9);
        Due.refused(x, "of fewer", () -> x.once(0), 5, 0);
        x.toss(3);
        Due.answer("the state of its beat 1", x.stateOf(3, 1), 5);
        Due.refused(x, "of its beat 1", () -> x.once(3), 4, 5);
        x.toss(1);
        Due.answer("of its beat 0", x.once(3), 2);
    }

    // ---- 11

    private static void rowOf() {
        rowOfNone();
        noSuchWhat();
        numbersOfRows();
        statesUpToThePeriod();
    }

    private static void rowOfNone() {
        Due.sentence("11: NONE if there is no such row");
        JugglingRows x = new JugglingRows();
        Due.answer("the first of none", x.rowOf(0, 0), NONE);
        x.row(3, 1);
        int[] outside = {LEAST, -1, 1, 6, MOST};
        for (int row : outside) {
            for (int what = -1; what <= 8; what++) {
                Due.answer("rowOf(" + row + ", " + what + ")", x.rowOf(row, what), NONE);
            }
        }
    }

    private static void noSuchWhat() {
        Due.sentence("11: BAD if there is no such what");
        JugglingRows x = Due.withRows("3", "10");
        int[] outside = {LEAST, -1, 8, 9, MOST};
        for (int what : outside) {
            Due.answer("of a clean row " + what, x.rowOf(0, what), BAD);
            Due.answer("of one that clashes " + what, x.rowOf(1, what), BAD);
        }
    }

    private static void numbersOfRows() {
        numberOf(0, "0 how many throws it has", 1, 8, 8, 8, 4, 5);
        numberOf(1, "1 the sum of them", 0, 72, 8, 1, 3, 25);
        numberOf(2, "2 its balls, NOTHING if it is not clean", 0, 9, 1, NOTHING, NOTHING, 5);
        numberOf(3, "3 the lowest beat that clashes, NOTHING if it is clean", NOTHING, NOTHING, NOTHING, 6, 1, NOTHING);
        numberOf(4, "4 its shortest period: the fewest throws by which it repeats", 1, 1, 8, 8, 4, 5);
        numberOf(5, "5 its greatest throw", 0, 9, 8, 1, 2, 9);
        numberOf(6, "6 how many throws go to the other hand, which odd ones do", 0, 8, 0, 1, 1, 5);
        numberOf(7, "7: .. NOTHING if it is not clean", 1, 1, 1, NOTHING, NOTHING, 1);
    }

    private static void numberOf(int what, String told, int... wants) {
        Due.sentence("11: " + told);
        String[] rows = {"0", "99999999", "00000008", "00000010", "0210", "97531"};
        JugglingRows x = Due.withRows(rows);
        for (int row = 0; row < rows.length; row++) {
            Due.answer("rowOf of " + rows[row], x.rowOf(row, what), wants[row]);
        }
    }

    private static void statesUpToThePeriod() {
        Due.sentence("11: 7: 1 if no two states of its beats up to its shortest period are the same, 0 if some are");
        JugglingRows x = Due.withRows("55", "5151", "333441", "312", "12", "34512");
        int[] wants = {1, 1, 0, 0, NOTHING, 0};
        for (int row = 0; row < wants.length; row++) {
            Due.answer("rowOf(" + row + ", 7)", x.rowOf(row, 7), wants[row]);
        }
        JugglingRows y = Due.withRows("44444434", "13", "3441", "441441", "4413", "33");
        int[] others = {NOTHING, 1, 0, 1, 0, 1};
        for (int row = 0; row < others.length; row++) {
            Due.answer("rowOf(" + row + ", 7)", y.rowOf(row, 7), others[row]);
        }
    }

    // ---- 12

    private static void throwAt() {
        Due.sentence("12: NONE if there is no such row or beat");
        JugglingRows x = new JugglingRows();
        Due.answer("the first of none", x.throwAt(0, 0), NONE);
        x.row(98765432, 8);
        x.row(50, 2);
        int[] outside = {LEAST, -1, 2, 6, MOST};
        for (int row : outside) {
            Due.answer("row " + row, x.throwAt(row, 0), NONE);
        }
        int[] beats = {LEAST, -1, 8, 9, MOST};
        for (int beat : beats) {
            Due.answer("beat " + beat, x.throwAt(0, beat), NONE);
        }
        Due.answer("the beat of a longer row", x.throwAt(1, 2), NONE);
        Due.sentence("12: Returns the throw");
        Due.answer("the first", x.throwAt(0, 0), 9);
        Due.answer("the last", x.throwAt(0, 7), 2);
        Due.answer("a throw of 0", x.throwAt(1, 1), 0);
    }

    // ---- 13, 14

    private static void isClean() {
        Due.sentence("13: Returns 1 if it is, otherwise 0");
        JugglingRows x = Due.withRows("0", "9", "00000001", "12345678", "77777777", "53210");
        int[] wants = {1, 1, 0, 0, 1, 0};
        for (int row = 0; row < wants.length; row++) {
            Due.answer("isClean " + row, x.isClean(row), wants[row]);
        }
        Due.sentence("14: Returns the same by a second way");
        for (int row = 0; row < wants.length; row++) {
            Due.answer("isCleanAgain " + row, x.isCleanAgain(row), wants[row]);
        }
        isCleanOfNone();
    }

    private static void isCleanOfNone() {
        JugglingRows x = Due.withRows("3");
        int[] outside = {LEAST, -1, 1, 6, MOST};
        Due.sentence("13: NONE if there is no such row");
        Due.answer("the first of none", new JugglingRows().isClean(0), NONE);
        for (int row : outside) {
            Due.answer("isClean " + row, x.isClean(row), NONE);
        }
        Due.sentence("14: NONE if there is no such row");
        Due.answer("the first of none", new JugglingRows().isCleanAgain(0), NONE);
        for (int row : outside) {
            Due.answer("isCleanAgain " + row, x.isCleanAgain(row), NONE);
        }
    }

    // ---- 15

    private static void stateOf() {
        Due.sentence("15: Returns the state");
        JugglingRows x = Due.withRows("0", "9", "80000000", "97531", "1");
        Due.answer("no balls", x.stateOf(0, 0), 0);
        Due.answer("nine balls", x.stateOf(1, 0), 511);
        Due.answer("80000000 at the first", x.stateOf(2, 0), 1);
        Due.answer("80000000 at the last", x.stateOf(2, 7), 2);
        Due.answer("97531 at 1", x.stateOf(3, 1), 271);
        Due.answer("one ball", x.stateOf(4, 0), 1);
        stateOfNone();
        stateOfAClash();
    }

    private static void stateOfNone() {
        Due.sentence("15: NONE if there is no such row or beat");
        JugglingRows x = new JugglingRows();
        Due.answer("the first of none", x.stateOf(0, 0), NONE);
        x.row(51, 2);
        x.row(55555555, 8);
        int[] outside = {LEAST, -1, 2, 6, MOST};
        for (int each : outside) {
            Due.answer("row " + each, x.stateOf(each, 0), NONE);
            Due.answer("beat " + each, x.stateOf(0, each), NONE);
        }
        Due.answer("behind the eighth beat", x.stateOf(1, 8), NONE);
        Due.answer("the eighth beat", x.stateOf(1, 7), 31);
    }

    private static void stateOfAClash() {
        Due.sentence("15: NOTHING if it is not clean");
        JugglingRows x = Due.withRows("53210");
        for (int beat = 0; beat < 5; beat++) {
            Due.answer("beat " + beat, x.stateOf(0, beat), NOTHING);
        }
        Due.answer("no such beat", x.stateOf(0, 5), NONE);
        Due.answer("no such beat", x.stateOf(0, -1), NONE);
    }

    // ---- 16

    private static void juggler() {
        Due.sentence("16: BAD if there is no such what");
        JugglingRows x = new JugglingRows();
        int[] outside = {LEAST, -1, 6, 7, MOST};
        for (int what : outside) {
            Due.answer("juggler " + what, x.juggler(what), BAD);
        }
        numberOfTheJuggler(0, "0 the state", 0, 255, 255, 1, 256, 128);
        numberOfTheJuggler(1, "1 the balls", 0, 8, 8, 1, 1, 1);
        numberOfTheJuggler(2, "2 the beats so far", 0, 0, 1, 0, 1, 2);
        numberOfTheJuggler(3, "3 the hand that throws next", 0, 0, 1, 0, 1, 0);
        numberOfTheJuggler(4, "4: 1 if a ball is in it now, otherwise 0", 0, 1, 1, 1, 0, 0);
        numberOfTheJuggler(5, "5 how many throws can be made now", 1, 2, 2, 9, 1, 1);
    }

    /** Ahead of all, with eight balls, behind 8, with one ball, behind 9, behind 0. */
    private static void numberOfTheJuggler(int what, String told, int... wants) {
        Due.sentence("16: " + told);
        JugglingRows x = new JugglingRows();
        Due.answer("ahead of all", x.juggler(what), wants[0]);
        x.begin(8);
        Due.answer("with eight balls", x.juggler(what), wants[1]);
        x.toss(8);
        Due.answer("behind 8", x.juggler(what), wants[2]);
        x.begin(1);
        Due.answer("with one ball", x.juggler(what), wants[3]);
        x.toss(9);
        Due.answer("behind 9", x.juggler(what), wants[4]);
        x.toss(0);
        Due.answer("behind 0", x.juggler(what), wants[5]);
    }

    // ---- 17

    private static void could() {
        Due.sentence("17: its place, the lowest first, from 0");
        JugglingRows x = new JugglingRows();
        Due.answer("without balls", x.could(0), 0);
        x.begin(1);
        for (int place = 0; place <= 8; place++) {
            Due.answer("with a ball " + place, x.could(place), place + 1);
        }
        x.begin(8);
        Due.answer("the lowest of eight", x.could(0), 8);
        Due.answer("the highest of eight", x.could(1), 9);
        couldOfNone();
    }

    private static void couldOfNone() {
        Due.sentence("17: NONE if there is no such place");
        JugglingRows x = new JugglingRows();
        Due.answer("without balls", x.could(1), NONE);
        x.begin(1);
        Due.answer("behind all nine", x.could(9), NONE);
        int[] outside = {LEAST, -1, 10, MOST};
        for (int place : outside) {
            Due.answer("could " + place, x.could(place), NONE);
        }
        x.toss(9);
        Due.answer("without a ball now", x.could(0), 0);
        Due.answer("without a ball now, behind", x.could(1), NONE);
        x.begin(8);
        Due.answer("behind both", x.could(2), NONE);
        x.toss(9);
        Due.answer("behind 7 and 9", x.could(2), NONE);
        Due.answer("9", x.could(1), 9);
    }

    // ---- 18, 19

    private static void joinTo() {
        Due.sentence("18, 19: Returns how many throws the join to a row has");
        JugglingRows x = Due.withRows("1", "00000008");
        x.begin(1);
        bothJoins(x, 0, 0);
        bothJoins(x, 1, 1);
        x.toss(9);
        bothJoins(x, 0, 8);
        bothJoins(x, 1, 1);
        x.toss(0);
        bothJoins(x, 1, 0);
        Due.sentence("18, 19: NONE if there is no such row");
        int[] outside = {LEAST, -1, 2, 6, MOST};
        for (int row : outside) {
            bothJoins(x, row, NONE);
        }
        bothJoins(new JugglingRows(), 0, NONE);
        joinToNothing();
    }

    private static void bothJoins(JugglingRows x, int row, int want) {
        Due.answer("joinTo(" + row + ")", x.joinTo(row), want);
        Due.answer("joinAgain(" + row + ")", x.joinAgain(row), want);
    }

    private static void joinToNothing() {
        Due.sentence("18, 19: NOTHING if there is no join");
        JugglingRows x = Due.withRows("10", "1", "2", "3", "9", "0");
        int[] without = {NOTHING, NOTHING, NOTHING, NOTHING, NOTHING, 0};
        int[] withTwo = {NOTHING, NOTHING, 0, NOTHING, NOTHING, NOTHING};
        for (int row = 0; row < 6; row++) {
            bothJoins(x, row, without[row]);
        }
        x.begin(2);
        for (int row = 0; row < 6; row++) {
            bothJoins(x, row, withTwo[row]);
        }
    }

    // ---- 20

    private static void joinThrow() {
        Due.sentence("20: its place, from 0");
        JugglingRows x = Due.withRows("40", "2", "3");
        x.begin(2);
        x.toss(9);
        x.toss(9);
        for (int place = 0; place < 7; place++) {
            Due.answer("place " + place, x.joinThrow(0, place), 0);
        }
        Due.answer("the last", x.joinThrow(0, 7), 3);
        Due.sentence("20: NONE if there is no such row or place");
        int[] places = {LEAST, -1, 8, 9, MOST};
        for (int place : places) {
            Due.answer("place " + place, x.joinThrow(0, place), NONE);
        }
        int[] rows = {LEAST, -1, 3, 6, MOST};
        for (int row : rows) {
            Due.answer("row " + row, x.joinThrow(row, 0), NONE);
        }
        x.begin(2);
        Due.answer("the first place of none", x.joinThrow(1, 0), NONE);
        Due.sentence("20: NOTHING if there is no join");
        Due.answer("other balls", x.joinThrow(2, 0), NOTHING);
        Due.answer("other balls, no place", x.joinThrow(2, -1), NOTHING);
    }

    // ---- 21

    private static void between() {
        Due.sentence("21: Returns how many throws it takes to come from one row, at its beat 0, to another one, at its beat 0");
        JugglingRows x = Due.withRows("10000000", "80000000", "00000008", "9", "0", "00");
        Due.answer("from the ball now to the ball at the end", x.between(1, 2), 1);
        Due.answer("and back", x.between(2, 1), 7);
        Due.answer("nine balls", x.between(3, 3), 0);
        Due.answer("no balls", x.between(4, 5), 0);
        x.turn(1);
        Due.answer("at its beat 0 then", x.between(2, 1), 0);
        betweenNone();
        betweenNothing();
    }

    private static void betweenNone() {
        Due.sentence("21: NONE if there is no such row, for either");
        JugglingRows x = Due.withRows("3", "321");
        int[] outside = {LEAST, -1, 2, 6, MOST};
        for (int row : outside) {
            Due.answer("to " + row, x.between(0, row), NONE);
            Due.answer("from " + row, x.between(row, 0), NONE);
            Due.answer("both " + row, x.between(row, row), NONE);
            Due.answer("from a clash to " + row, x.between(1, row), NONE);
            Due.answer("to a clash from " + row, x.between(row, 1), NONE);
        }
    }

    private static void betweenNothing() {
        Due.sentence("21: NOTHING if one is not clean, or they have unlike balls");
        JugglingRows x = Due.withRows("3", "321", "4", "2", "211");
        Due.answer("to a clash", x.between(0, 1), NOTHING);
        Due.answer("from a clash", x.between(1, 0), NOTHING);
        Due.answer("both clash", x.between(1, 4), NOTHING);
        Due.answer("to more", x.between(0, 2), NOTHING);
        Due.answer("to fewer", x.between(0, 3), NOTHING);
    }

    // ---- 22

    private static void ranked() {
        orderOf(0, "0 by how many throws, the fewest first", new String[] {"22", "1", "12345678", "1", "22", "333"}, 1, 3, 0, 4, 5, 2);
        orderOf(1, "1 by balls, the most first, rows that are not clean last", new String[] {"10", "0", "9", "3", "00000001", "531"}, 2, 3, 5, 1, 0, 4);
        orderOf(2, "2 by the greatest throw, the least first", new String[] {"9", "0", "09", "00000008", "80", "00"}, 1, 5, 3, 4, 0, 2);
        orderOf(0, "of several the lowest first", new String[] {"11", "33", "22", "55", "44", "00"}, 0, 1, 2, 3, 4, 5);
        orderOf(1, "of several the lowest first", new String[] {"21", "3", "10", "51", "32", "441"}, 1, 3, 5, 0, 2, 4);
        orderOf(2, "of several the lowest first", new String[] {"7", "17", "71", "70000000", "77", "007"}, 0, 1, 2, 3, 4, 5);
        orderOf(1, "rows that are not clean last, behind those of no balls", new String[] {"10", "0"}, 1, 0);
        rankedNoKind();
        rankedNoPlace();
    }

    private static void orderOf(int kind, String told, String[] rows, int... order) {
        Due.sentence("22: " + told);
        JugglingRows x = Due.withRows(rows);
        for (int place = 0; place < order.length; place++) {
            Due.answer("ranked(" + kind + ", " + place + ")", x.ranked(kind, place), order[place]);
        }
    }

    private static void rankedNoKind() {
        Due.sentence("22: BAD if there is no such kind");
        JugglingRows x = new JugglingRows();
        int[] outside = {LEAST, -1, 3, 4, MOST};
        for (int kind : outside) {
            Due.answer("without rows " + kind, x.ranked(kind, 0), BAD);
        }
        x.row(3, 1);
        for (int kind : outside) {
            Due.answer("with a row " + kind, x.ranked(kind, 0), BAD);
            Due.answer("no place either " + kind, x.ranked(kind, 1), BAD);
        }
    }

    private static void rankedNoPlace() {
        Due.sentence("22: NONE if there is no such place");
        for (int kind = 0; kind <= 2; kind++) {
            JugglingRows x = new JugglingRows();
            Due.answer("of no rows", x.ranked(kind, 0), NONE);
            for (int rows = 1; rows <= 6; rows++) {
                x.row(1, 1);
                Due.answer("the last of " + rows, x.ranked(kind, rows - 1), rows - 1);
                Due.answer("behind " + rows, x.ranked(kind, rows), NONE);
                Due.answer("ahead of " + rows, x.ranked(kind, -1), NONE);
            }
            Due.answer("far behind", x.ranked(kind, MOST), NONE);
            Due.answer("far ahead", x.ranked(kind, LEAST), NONE);
        }
    }

    // ---- 23

    private static void tellRow() {
        Due.sentence("23: Writes the line about a row, in place of the line before");
        JugglingRows x = Due.withRows("99999998", "7", "99999999");
        Due.line(x, x.tellRow(0), "99999998!6");
        Due.line(x, x.tellRow(1), "7=7");
        Due.line(x, x.tellRow(2), "99999999=9");
        Due.sentence("23: NONE if there is no such row");
        int[] outside = {LEAST, -1, 3, 6, MOST};
        for (int row : outside) {
            Due.answer("tellRow " + row, x.tellRow(row), NONE);
            Due.alike("the line", Due.lineOf(x), "99999999=9");
        }
        Due.answer("the first of none", new JugglingRows().tellRow(0), NONE);
    }

    // ---- 24

    private static void tellState() {
        Due.sentence("24: Writes the line about the juggler's state, in place of the line before");
        JugglingRows x = Due.withRows("12345678");
        x.tellRow(0);
        Due.line(x, x.tellState(), "-");
        x.begin(8);
        Due.line(x, x.tellState(), "xxxxxxxx");
        x.begin(1);
        Due.line(x, x.tellState(), "x");
    }

    // ---- 25

    private static void tellJoin() {
        Due.sentence("25: Writes the line about the join to a row, in place of the line before");
        JugglingRows x = Due.withRows("1", "00000008", "2", "10");
        x.begin(1);
        Due.line(x, x.tellJoin(1), "8");
        Due.line(x, x.tellJoin(0), "");
        x.toss(9);
        Due.line(x, x.tellJoin(0), "00000000");
        Due.sentence("25: NONE if there is no such row");
        int[] outside = {LEAST, -1, 4, 6, MOST};
        for (int row : outside) {
            Due.answer("tellJoin " + row, x.tellJoin(row), NONE);
            Due.alike("the line", Due.lineOf(x), "00000000");
        }
        Due.sentence("25: NOTHING if there is no join, and the line stays");
        Due.answer("to other balls", x.tellJoin(2), NOTHING);
        Due.alike("the line", Due.lineOf(x), "00000000");
        Due.answer("to a clash", x.tellJoin(3), NOTHING);
        Due.alike("the line", Due.lineOf(x), "00000000");
    }

    // ---- 26

    private static void sign() {
        Due.sentence("26: Returns a character of the line, which is empty at first");
        JugglingRows x = Due.withRows("99999999", "3");
        Due.answer("the first of none", x.sign(0), NONE);
        x.tellRow(0);
        Due.answer("the first", x.sign(0), '9');
        Due.answer("the last", x.sign(9), '9');
        Due.answer("its last but one", x.sign(8), '=');
        Due.sentence("26: NONE if there is no such index");
        int[] outside = {LEAST, -1, 10, 11, MOST};
        for (int index : outside) {
            Due.answer("sign " + index, x.sign(index), NONE);
        }
        x.tellRow(1);
        Due.answer("behind a shorter line", x.sign(3), NONE);
        x.begin(3);
        x.tellJoin(1);
        Due.answer("of an empty line", x.sign(0), NONE);
    }

    // ---- 27

    private static void append() {
        Due.sentence("27: Returns the length of the text");
        JugglingRows x = new JugglingRows();
        for (int length = 1; length <= 70; length++) {
            Due.answer("the character " + length, x.append(length % 2 == 0 ? 32 : 126), length);
        }
        Due.sentence("27: BAD if the text has 70 characters");
        Due.answer("one more", x.append('5'), BAD);
        Due.answer("one more", x.append(32), BAD);
        Due.answer("the length", x.account(9), 70);
        x.read();
        Due.answer("emptied", x.append('5'), 1);
        Due.answer("the text", x.read(), 1);
        Due.sentence("27: BAD if the code is out of range");
        int[] outside = {LEAST, -1, 0, 10, 31, 127, 128, 256 + 53, 65536 + 53, MOST};
        for (int code : outside) {
            Due.fails(x, "append " + code, () -> x.append(code), BAD);
            Due.answer("the length", x.account(9), 0);
        }
        Due.answer("the least", x.append(32), 1);
        Due.answer("the greatest", x.append(126), 2);
    }

    // ---- 28

    private static void read() {
        readNumbers();
        readFault();
        readRefused();
        readBad();
        readAllOrNone();
        readOfAClash();
    }

    private static void readNumbers() {
        Due.sentence("28: Returns the number of commands");
        JugglingRows x = new JugglingRows();
        Due.answer("one", Due.read(x, "3"), 1);
        Due.answer("two", Due.read(x, "b3;r0"), 2);
        Due.answer("two of one sort", Due.read(x, "c0;c0"), 2);
        Due.answer("24", Due.read(x, "b8;".repeat(23) + "7"), 24);
        Due.answer("changes", x.account(10), 4);
    }

    private static void readFault() {
        Due.sentence("28: -100 minus the fault position if the text is wrong");
        JugglingRows x = new JugglingRows();
        Due.fails(x, "an empty text", () -> x.read(), -100);
        Due.fails(x, "wrong at 0", () -> Due.read(x, " 5"), -100);
        Due.fails(x, "wrong at its end", () -> Due.read(x, "5;"), -102);
        Due.fails(x, "wrong at 69", () -> Due.read(x, "5;".repeat(34) + "5x"), -169);
        Due.fails(x, "ending at 70", () -> Due.read(x, "5;".repeat(35)), -170);
        Due.answer("no text is left", x.account(9), 0);
    }

    private static void readRefused() {
        Due.sentence("28: REFUSED if a command is refused");
        JugglingRows x = new JugglingRows();
        Due.fails(x, "the first", () -> Due.read(x, "j0;5"), REFUSED);
        Due.refusal(x, 6, 0, 0);
        Due.fails(x, "the last", () -> Due.read(x, "5;b5;j0"), REFUSED);
        Due.refusal(x, 4, 31, 2);
        Due.fails(x, "one ahead of what would be BAD", () -> Due.read(x, "b1;j0;b0"), REFUSED);
        Due.refusal(x, 4, 1, 1);
        Due.fails(x, "the seventh row", () -> Due.read(x, "1;2;3;4;5;6;7"), REFUSED);
        Due.refusal(x, 1, 6, 6);
    }

    private static void readBad() {
        Due.sentence("28: BAD if a call for a command returns another error code");
        String[] texts = {"b0", "b9", "x0", "t0", "l0", "c0", "r0", "s001", "5;x1", "5;t1", "5;l9", "5;c1", "5;r1", "51;s002", "51;s021",
            "5;x0;x0", "b0;j0"};
        for (String told : texts) {
            JugglingRows x = new JugglingRows();
            Due.fails(x, "read " + told, () -> Due.read(x, told), BAD);
            Due.answer("nothing refused by " + told, x.refusal(0), NOTHING);
        }
    }

    private static void readAllOrNone() {
        Due.sentence("28: Reads the text as commands and carries them out, all or none");
        JugglingRows x = Due.withRows("51");
        x.begin(3);
        Due.fails(x, "all but the last", () -> Due.read(x, "x0;b8;j9;531;333;t0;l0;s001;c1;b3;j3;r1;j0"), REFUSED);
        Due.fails(x, "all but the last", () -> Due.read(x, "x0;b8;j9;531;b0"), BAD);
        Due.answer("all", Due.read(x, "x0;b8;j9;531"), 4);
        Due.row(x, 0, "531");
        Due.answer("the highest", x.account(6), 9);
        Due.answer("begun", x.account(8), 2);
        Due.answer("changes", x.account(10), 3);
        Due.answer("undone at once", x.undo(), 2);
        Due.row(x, 0, "51");
        Due.answer("begun", x.account(8), 1);
    }

    private static void readOfAClash() {
        Due.sentence("28: a lifted row that clashes returns NOTHING, which is its balls and no error code");
        JugglingRows x = new JugglingRows();
        Due.answer("read", Due.read(x, "10;l0;l0"), 3);
        Due.row(x, 0, "32");
    }

    // ---- 29

    private static void refusal() {
        Due.sentence("29: NOTHING if nothing was refused");
        JugglingRows x = new JugglingRows();
        Due.refusal(x, NOTHING, NOTHING, NOTHING);
        x.begin(0);
        x.drop(0);
        Due.read(x, "b0");
        Due.refusal(x, NOTHING, NOTHING, NOTHING);
        refusalNoWhat();
        refusalOfACommand();
        refusalOfTheLast();
    }

    private static void refusalNoWhat() {
        Due.sentence("29: BAD if there is no such what");
        JugglingRows x = new JugglingRows();
        int[] outside = {LEAST, -1, 3, 4, MOST};
        for (int what : outside) {
            Due.answer("refusal " + what, x.refusal(what), BAD);
        }
        x.toss(1);
        for (int what : outside) {
            Due.answer("refusal " + what, x.refusal(what), BAD);
        }
    }

    private static void refusalOfACommand() {
        Due.sentence("29: 2 the number of the command in its text, from 0, NOTHING for another call than read");
        JugglingRows x = new JugglingRows();
        Due.read(x, "j9");
        Due.refusal(x, 6, 0, 0);
        x.toss(9);
        Due.refusal(x, 6, 0, NOTHING);
        Due.read(x, "b1;".repeat(22) + "j0");
        Due.refusal(x, 4, 1, 22);
        x.begin(2);
        x.toss(0);
        Due.refusal(x, 4, 3, NOTHING);
    }

    private static void refusalOfTheLast() {
        Due.sentence("29: Returns a number about what was refused last");
        JugglingRows x = Due.withRows("9", "21");
        x.lift(0);
        Due.refusal(x, 2, 0, NOTHING);
        x.swap(1, 1, 0);
        Due.refusal(x, 7, 1, NOTHING);
        x.once(1);
        Due.refusal(x, 6, 0, NOTHING);
        x.begin(8);
        x.once(1);
        Due.refusal(x, 3, 0, NOTHING);
        x.once(0);
        Due.refusal(x, 5, 9, NOTHING);
    }

    // ---- 30

    private static void account() {
        Due.sentence("30: BAD if there is no such what");
        JugglingRows x = new JugglingRows();
        int[] outside = {LEAST, -1, 11, 12, MOST};
        for (int what : outside) {
            Due.answer("account " + what, x.account(what), BAD);
        }
        accountsOfRows();
        accountsOfThrows();
        accountsOfTheText();
    }

    private static void accountsOfRows() {
        accountOfRows(0, "0 the rows", 0, 1, 2, 3, 4, 5, 6);
        accountOfRows(1, "1 those that are clean", 0, 1, 1, 2, 3, 3, 4);
        accountOfRows(2, "2 the throws of all rows", 0, 8, 16, 17, 18, 21, 29);
        accountOfRows(3, "3 the balls of all clean rows together", 0, 9, 9, 9, 18, 18, 26);
    }

    private static void accountOfRows(int what, String told, int... wants) {
        Due.sentence("30: " + told);
        JugglingRows x = new JugglingRows();
        String[] rows = {"99999999", "00000001", "0", "9", "321", "88888888"};
        Due.answer("without rows", x.account(what), wants[0]);
        for (int row = 0; row < rows.length; row++) {
            Due.add(x, rows[row]);
            Due.answer("behind " + rows[row], x.account(what), wants[row + 1]);
        }
        for (int left = 5; left >= 0; left--) {
            x.drop(left);
            Due.answer("with " + left + " rows", x.account(what), wants[left]);
        }
    }

    private static void accountsOfThrows() {
        accountOfThrows(4, "4 the throws made so far", 0, 0, 1, 9, 11, 12, 12, 12, 9, 0);
        accountOfThrows(5, "5 those of a ball so far", 0, 0, 1, 1, 2, 3, 3, 3, 1, 0);
        accountOfThrows(6, "6 the greatest throw made so far", 0, 0, 9, 9, 9, 9, 9, 9, 9, 0);
        accountOfThrows(7, "7 the joins made so far", 0, 0, 0, 1, 1, 1, 2, 2, 1, 0);
        accountOfThrows(8, "8 how often was begun so far", 0, 1, 1, 1, 1, 1, 1, 2, 1, 1);
    }

    private static void accountOfThrows(int what, String told, int... wants) {
        Due.sentence("30: " + told);
        JugglingRows x = Due.withRows("1", "20");
        Due.answer("ahead of all", x.account(what), wants[0]);
        x.begin(1);
        Due.answer("behind begin", x.account(what), wants[1]);
        x.toss(9);
        Due.answer("behind toss", x.account(what), wants[2]);
        x.join(0);
        Due.answer("behind a join of eight zeros", x.account(what), wants[3]);
        x.once(1);
        Due.answer("behind once 20", x.account(what), wants[4]);
        x.toss(1);
        Due.answer("behind a throw of 1", x.account(what), wants[5]);
        x.join(1);
        Due.answer("behind a join of no throws", x.account(what), wants[6]);
        x.begin(1);
        Due.answer("behind begin anew", x.account(what), wants[7]);
        x.toss(0);
        Due.answer("behind what is refused", x.account(what), wants[7]);
        for (int undone = 0; undone < 4; undone++) {
            x.undo();
        }
        Due.answer("behind four undone", x.account(what), wants[8]);
        x.undo();
        x.undo();
        Due.answer("behind six undone", x.account(what), wants[9]);
    }

    private static void accountsOfTheText() {
        Due.sentence("30: 9 the characters of the text");
        JugglingRows x = new JugglingRows();
        for (int many = 1; many <= 71; many++) {
            x.append('3');
            Due.answer("account(9)", x.account(9), Math.min(many, 70));
        }
        x.read();
        Due.answer("account(9)", x.account(9), 0);
        Due.sentence("30: 10 the changes that can be undone");
        for (int many = 1; many <= 9; many++) {
            x.begin(1);
            Due.answer("account(10)", x.account(10), Math.min(many, 8));
        }
        x.undo();
        Due.answer("account(10)", x.account(10), 7);
        x.save();
        x.restore();
        Due.answer("account(10)", x.account(10), 0);
    }

    // ---- 31

    private static void isWell() {
        Due.sentence("31: Returns 1 if it is so, otherwise 0");
        JugglingRows x = new JugglingRows();
        Due.answer("without rows", x.isWell(), 1);
        String[] rows = {"0", "9", "21", "00000008", "99999999", "97531"};
        for (String row : rows) {
            Due.add(x, row);
            Due.answer("without balls, with " + row, x.isWell(), 1);
        }
        for (int balls = 1; balls <= 8; balls++) {
            x.begin(balls);
            Due.answer("with " + balls, x.isWell(), 1);
            x.toss(9);
            Due.answer("with " + balls + " behind 9", x.isWell(), 1);
        }
    }

    // ---- 32

    private static void mean() {
        Due.sentence("32: NOTHING without rows");
        JugglingRows x = new JugglingRows();
        Due.answer("without rows", x.mean(), NOTHING);
        x.row(3, 1);
        x.drop(0);
        Due.answer("without rows any more", x.mean(), NOTHING);
        for (int height = 0; height <= 9; height++) {
            meanOf(Integer.toString(height), height);
        }
        meanOf("00000000", 0f);
        meanOf("99999999", 9f);
        meanOf("00000001", 1f / 8f);
        meanOf("100", 1f / 3f);
        meanOf("99999998", 71f / 8f);
        meanOf("1000000", 1f / 7f);
        meanOfSixRows();
    }

    private static void meanOf(String row, float want) {
        Due.sentence("32: Returns the mean height of the throws of all rows, as by Float.floatToIntBits");
        Due.answer("mean of " + row, Due.withRows(row).mean(), Float.floatToIntBits(want));
    }

    private static void meanOfSixRows() {
        Due.sentence("32: the throws of all rows, their sum and their number converted to float");
        JugglingRows x = Due.withRows("99999999", "99999999", "99999999", "99999999", "99999999", "9999999");
        Due.answer("47 nines", x.mean(), Float.floatToIntBits(9f));
        JugglingRows y = Due.withRows("00000000", "00000000", "00000000", "00000000", "00000000", "0000001");
        Due.answer("1 of 47", y.mean(), Float.floatToIntBits(1f / 47f));
        y.drop(0);
        Due.answer("1 of 39", y.mean(), Float.floatToIntBits(1f / 39f));
        JugglingRows z = Due.withRows("98", "321", "7");
        Due.answer("30 of 6", z.mean(), Float.floatToIntBits(5f));
    }

    // ---- 33

    private static void undo() {
        Due.sentence("33: NOTHING if there is none");
        JugglingRows x = new JugglingRows();
        Due.fails(x, "of a new object", () -> x.undo(), NOTHING);
        x.begin(1);
        Due.answer("one", x.undo(), 0);
        Due.fails(x, "one too many", () -> x.undo(), NOTHING);
        undoOfEight();
        undoOfEachKind();
        undoAndGoOn();
    }

    private static void undoOfEight() {
        Due.sentence("33: Returns the changes that can still be undone, up to the eighth and one more");
        JugglingRows x = new JugglingRows();
        for (int row = 0; row < 6; row++) {
            x.row(row, 1);
        }
        x.begin(1);
        x.begin(2);
        for (int left = 7; left >= 0; left--) {
            Due.answer("undo", x.undo(), left);
        }
        Due.answer("rows", x.account(0), 0);
        Due.fails(x, "the ninth", () -> x.undo(), NOTHING);
        for (int change = 0; change < 20; change++) {
            x.begin(1 + change % 8);
        }
        for (int left = 7; left >= 0; left--) {
            Due.answer("undo of twenty", x.undo(), left);
        }
        Due.answer("begun", x.account(8), 12);
        Due.fails(x, "the ninth of twenty", () -> x.undo(), NOTHING);
    }

    private static void undoOfEachKind() {
        Due.sentence("33: Undoes the latest change");
        String[] changes = {"5", "x0", "t0", "s002", "l0", "b2", "j9", "c1", "r2"};
        for (String change : changes) {
            JugglingRows x = Due.withRows("531", "51", "3");
            x.begin(3);
            String ahead = Due.stand(x);
            int first = change.charAt(change.length() > 1 ? 1 : 0) - '0';
            switch (change.charAt(0)) {
                case 'x' -> x.drop(first);
                case 't' -> x.turn(first);
                case 's' -> x.swap(first, 0, 2);
                case 'l' -> x.lift(first);
                case 'b' -> x.begin(first);
                case 'j' -> x.toss(first);
                case 'c' -> x.join(first);
                case 'r' -> x.once(first);
                default -> x.row(first, 1);
            }
            Due.answer("changes behind " + change, x.account(10), 5);
            Due.answer("undo of " + change, x.undo(), 4);
            Due.alike("the stand behind the undo of " + change, Due.stand(x), ahead);
            Due.answer("read " + change, Due.read(x, change), 1);
            Due.answer("undo of the text " + change, x.undo(), 4);
            Due.alike("the stand behind the undo of the text " + change, Due.stand(x), ahead);
        }
    }

    private static void undoAndGoOn() {
        Due.sentence("33: Undoes the latest change, and a change behind it is the latest then");
        JugglingRows x = new JugglingRows();
        for (int balls = 1; balls <= 8; balls++) {
            x.begin(balls);
        }
        x.undo();
        x.undo();
        x.row(7, 1);
        Due.answer("changes", x.account(10), 7);
        Due.answer("the row", x.undo(), 6);
        Due.answer("rows", x.account(0), 0);
        Due.answer("the state", x.juggler(0), 63);
        Due.answer("the one before", x.undo(), 5);
        Due.answer("the state", x.juggler(0), 31);
    }

    // ---- 34

    private static void save() {
        Due.sentence("34: Returns the rows");
        JugglingRows x = new JugglingRows();
        for (int rows = 0; rows <= 6; rows++) {
            Due.answer("save", x.save(), rows);
            x.row(1, 1);
        }
        Due.sentence("34: Saves a snapshot, in place of an earlier one");
        x.drop(0);
        x.turn(0);
        Due.answer("a later one", x.save(), 5);
        Due.answer("no change", x.account(10), 8);
        x.drop(0);
        x.undo();
        Due.answer("undo goes on", x.undo(), 6);
        Due.answer("restored", x.restore(), 5);
        Due.answer("rows", x.account(0), 5);
    }

    // ---- 35

    private static void restore() {
        Due.sentence("35: NOTHING if there is no snapshot");
        JugglingRows x = Due.withRows("3");
        x.begin(3);
        Due.fails(x, "restore", () -> x.restore(), NOTHING);
        Due.answer("it can still be undone", x.undo(), 1);
        snapshotStays();
        nothingToUndo();
        emptySnapshot();
    }

    private static void snapshotStays() {
        Due.sentence("35: Restores the snapshot, which stays");
        JugglingRows x = Due.withRows("531", "3");
        x.save();
        for (int times = 0; times < 3; times++) {
            x.turn(0);
            x.lift(1);
            x.drop(times % 2);
            Due.answer("restore", x.restore(), 2);
            Due.row(x, 0, "531");
            Due.row(x, 1, "3");
        }
        Due.answer("at once again", x.restore(), 2);
    }

    private static void nothingToUndo() {
        Due.sentence("35: Nothing can be undone then");
        JugglingRows x = new JugglingRows();
        x.save();
        for (int balls = 1; balls <= 8; balls++) {
            x.begin(balls);
        }
        Due.answer("restore", x.restore(), 0);
        Due.answer("changes", x.account(10), 0);
        Due.fails(x, "undo", () -> x.undo(), NOTHING);
        x.begin(4);
        Due.answer("a change then", x.undo(), 0);
        Due.answer("the state", x.juggler(0), 0);
        Due.fails(x, "one more", () -> x.undo(), NOTHING);
    }

    private static void emptySnapshot() {
        Due.sentence("35: Returns the rows");
        JugglingRows x = new JugglingRows();
        x.save();
        for (int row = 0; row < 6; row++) {
            x.row(1, 1);
        }
        Due.answer("none", x.restore(), 0);
        Due.answer("rows", x.account(0), 0);
        for (int row = 0; row < 6; row++) {
            x.row(2, 1);
        }
        x.save();
        x.drop(0);
        Due.answer("six", x.restore(), 6);
        Due.row(x, 5, "2");
    }
}
