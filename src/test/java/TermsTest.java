/** Each sentence of the document's heads that names a boundary case, by a test of its own. */
public final class TermsTest {
    private static final int NONE = -1;
    private static final int BAD = -2;
    private static final int REFUSED = -3;
    private static final int NOTHING = -4;

    private TermsTest() {
    }

    public static void main(String[] args) {
        whatItIs();
        rows();
        clashes();
        states();
        theJuggler();
        joins();
        changingRows();
        reasons();
        orderOfReasons();
        lines();
        text();
        faultPosition();
        changes();
        inDoubtOfRows();
        inDoubtOfTheJuggler();
        errors();
        keptByNeither();
        constants();
        Due.end();
    }

    // ---- what it is

    private static void whatItIs() {
        callsUpToTheLast();
        changesUpToTheLastCall();
    }

    private static void callsUpToTheLast() {
        Due.sentence("An object is used for at most 512 calls after it has been made");
        JugglingRows x = new JugglingRows();
        x.begin(1);
        for (int call = 2; call <= 510; call++) {
            Due.answer("call " + call, x.toss(1), call & 1);
        }
        Due.answer("call 511", x.account(4), 509);
        Due.answer("call 512", x.juggler(2), 509);
    }

    private static void changesUpToTheLastCall() {
        Due.sentence("An object is used for at most 512 calls after it has been made: changes alone");
        JugglingRows x = new JugglingRows();
        for (int call = 1; call <= 510; call++) {
            x.begin(1 + call % 8);
        }
        Due.answer("call 511", x.undo(), 7);
        Due.answer("call 512", x.juggler(0), 63);
    }

    // ---- rows

    private static void rows() {
        sixRows();
        numberedFromZero();
        oneToEightThrows();
        throwsFromZeroToNine();
        beatsFromZero();
        behindTheLastBeat();
        landsSoManyBeatsLater();
        noBall();
        laterNumbers();
    }

    private static void sixRows() {
        Due.sentence("There are at most 6 rows");
        JugglingRows x = Due.withRows("1", "22", "333", "4444", "55555", "666666");
        Due.answer("rows", x.account(0), 6);
        Due.answer("the seventh", x.row(7, 1), REFUSED);
        Due.answer("rows then", x.account(0), 6);
        x.drop(5);
        Due.answer("in the room of a dropped one", x.row(7, 1), 5);
        Due.answer("one too many again", x.row(8, 1), REFUSED);
    }

    private static void numberedFromZero() {
        Due.sentence("rows, numbered from 0");
        JugglingRows x = new JugglingRows();
        Due.answer("no rows", x.isClean(0), NONE);
        x.row(1, 1);
        Due.answer("ahead of the first", x.isClean(-1), NONE);
        Due.answer("the first", x.isClean(0), 1);
        Due.answer("behind the only", x.isClean(1), NONE);
        for (int row = 1; row < 6; row++) {
            x.row(1, 1);
        }
        Due.answer("the sixth", x.isClean(5), 1);
        Due.answer("behind the sixth", x.isClean(6), NONE);
    }

    private static void oneToEightThrows() {
        Due.sentence("A row has 1 to 8 throws");
        JugglingRows x = new JugglingRows();
        Due.answer("no throws", x.row(0, 0), BAD);
        Due.answer("one throw", x.row(5, 1), 0);
        Due.answer("eight throws", x.row(12345678, 8), 1);
        Due.answer("nine throws", x.row(12345678, 9), BAD);
        Due.row(x, 0, "5");
        Due.row(x, 1, "12345678");
    }

    private static void throwsFromZeroToNine() {
        Due.sentence("throws, each from 0 to 9");
        JugglingRows x = Due.withRows("0", "9", "01234567", "98");
        Due.row(x, 0, "0");
        Due.row(x, 1, "9");
        Due.row(x, 2, "01234567");
        Due.row(x, 3, "98");
        Due.answer("9 lifted", x.lift(1), REFUSED);
        Due.answer("9 lifted in 98", x.lift(3), REFUSED);
        Due.answer("0 lifted", x.lift(0), 1);
    }

    private static void beatsFromZero() {
        Due.sentence("for beats numbered from 0");
        JugglingRows x = Due.withRows("7", "12345678");
        Due.answer("the only one", x.throwAt(0, 0), 7);
        Due.answer("behind the only one", x.throwAt(0, 1), NONE);
        Due.answer("the first", x.throwAt(1, 0), 1);
        Due.answer("the last", x.throwAt(1, 7), 8);
        Due.answer("ahead of the first", x.throwAt(1, -1), NONE);
        Due.answer("behind the last", x.throwAt(1, 8), NONE);
    }

    private static void behindTheLastBeat() {
        Due.sentence("repeats for ever: behind its last beat comes its first one");
        JugglingRows x = Due.withRows("13", "9", "80000000");
        Due.answer("13 at 0: the 3 ahead lands 2 beats on", x.stateOf(0, 0), 5);
        Due.answer("13 at 1: the 1 and the 3 two beats ago", x.stateOf(0, 1), 3);
        Due.answer("9: nine of them", x.stateOf(1, 0), 511);
        Due.answer("80000000 at 0: its own ball", x.stateOf(2, 0), 1);
        Due.answer("80000000 at 7", x.stateOf(2, 7), 2);
    }

    private static void landsSoManyBeatsLater() {
        Due.sentence("A throw of a number lands so many beats later");
        JugglingRows x = new JugglingRows();
        x.begin(1);
        x.toss(9);
        for (int beat = 1; beat < 9; beat++) {
            Due.answer("the beat " + beat, x.juggler(4), 0);
            x.toss(0);
        }
        Due.answer("the beat 9", x.juggler(4), 1);
        x.toss(1);
        Due.answer("the beat behind a throw of 1", x.juggler(4), 1);
    }

    private static void noBall() {
        Due.sentence("a throw of 0 means that there is no ball");
        JugglingRows x = Due.withRows("0", "00000000", "20");
        Due.answer("balls of 0", x.rowOf(0, 2), 0);
        Due.answer("balls of eight zeros", x.rowOf(1, 2), 0);
        Due.answer("balls of 20", x.rowOf(2, 2), 1);
        x.begin(1);
        x.once(2);
        Due.answer("throws", x.account(4), 2);
        Due.answer("throws of a ball", x.account(5), 1);
    }

    private static void laterNumbers() {
        Due.sentence("When a row is dropped, the numbers of the later ones become 1 less");
        JugglingRows x = Due.withRows("1", "22", "333", "4444", "55555", "666666");
        Due.answer("the first dropped", x.drop(0), 5);
        Due.row(x, 0, "22");
        Due.row(x, 4, "666666");
        Due.answer("no sixth", x.rowOf(5, 0), NONE);
        Due.answer("one in the middle dropped", x.drop(2), 4);
        Due.row(x, 1, "333");
        Due.row(x, 2, "55555");
        Due.row(x, 3, "666666");
        Due.answer("the last dropped", x.drop(3), 3);
        Due.row(x, 0, "22");
        Due.row(x, 1, "333");
        Due.row(x, 2, "55555");
        Due.answer("none behind", x.rowOf(3, 0), NONE);
    }

    // ---- clashes

    private static void clashes() {
        landingRoundTheEnd();
        firstAndLastClash();
        nothingLeftOver();
    }

    private static void landingRoundTheEnd() {
        Due.sentence("The landing of a beat is its number and its throw together, modulo the number of throws");
        JugglingRows x = Due.withRows("90", "09", "19", "18", "99999999", "70000001");
        int[] clean = {0, 0, 1, 0, 1, 1};
        for (int row = 0; row < clean.length; row++) {
            Due.answer("isClean(" + row + ")", x.isClean(row), clean[row]);
            Due.answer("isCleanAgain(" + row + ")", x.isCleanAgain(row), clean[row]);
        }
    }

    private static void firstAndLastClash() {
        Due.sentence("Two beats clash if their landings are the same");
        JugglingRows x = Due.withRows("00000001", "00000010", "10000000", "00000000");
        int[] lowest = {0, 6, 0, NOTHING};
        for (int row = 0; row < lowest.length; row++) {
            Due.answer("lowest clash of " + row, x.rowOf(row, 3), lowest[row]);
            Due.answer("isClean(" + row + ")", x.isClean(row), lowest[row] == NOTHING ? 1 : 0);
            Due.answer("isCleanAgain(" + row + ")", x.isCleanAgain(row), lowest[row] == NOTHING ? 1 : 0);
        }
    }

    private static void nothingLeftOver() {
        Due.sentence("A clean row has as many balls as the sum of its throws divided by their number");
        JugglingRows x = Due.withRows("0", "9", "80000000", "99999999", "97531", "111");
        int[] balls = {0, 9, 1, 9, 5, 1};
        for (int row = 0; row < balls.length; row++) {
            Due.answer("balls of " + row, x.rowOf(row, 2), balls[row]);
        }
    }

    // ---- states

    private static void states() {
        beatsOfAState();
        throwOfANumber();
        throwOntoABall();
        throwOfZero();
        bitLessOne();
        stateForEver();
    }

    private static void beatsOfAState() {
        Due.sentence("A state tells for the beats 0 to 8 from now on whether a ball lands then, with bit k for the beat k");
        JugglingRows x = Due.withRows("9");
        x.begin(1);
        Due.answer("the beat 0", x.juggler(0), 1);
        x.toss(9);
        Due.answer("the beat 8", x.juggler(0), 256);
        Due.answer("all of them", x.stateOf(0, 0), 511);
    }

    private static void throwOfANumber() {
        Due.sentence("A throw of a number from 1 to 9 can be made in a state if bit 0 is there");
        JugglingRows x = new JugglingRows();
        x.begin(1);
        for (int height = 1; height <= 9; height++) {
            Due.answer("toss " + height, x.toss(height), 0);
            x.undo();
        }
        x.toss(2);
        for (int height = 1; height <= 9; height++) {
            Due.answer("without bit 0 toss " + height, x.toss(height), REFUSED);
        }
    }

    private static void throwOntoABall() {
        Due.sentence("and no ball lands at that many beats from now on");
        JugglingRows x = new JugglingRows();
        x.begin(8);
        for (int height = 1; height <= 7; height++) {
            Due.answer("toss " + height, x.toss(height), REFUSED);
        }
        Due.answer("toss 8", x.toss(8), 0);
        Due.answer("toss 9", x.toss(9), 1);
        Due.answer("the state", x.juggler(0), 383);
        Due.answer("onto the ball of the beat 8", x.toss(8), REFUSED);
        Due.answer("into the gap", x.toss(7), 0);
    }

    private static void throwOfZero() {
        Due.sentence("a throw of 0 if bit 0 is not there");
        JugglingRows x = new JugglingRows();
        x.begin(1);
        Due.answer("bit 0 is there", x.toss(0), REFUSED);
        x.toss(2);
        Due.answer("bit 0 is not there", x.toss(0), 1);
        Due.answer("bit 0 is there again", x.toss(0), REFUSED);
    }

    private static void bitLessOne() {
        Due.sentence("each beat is one nearer: a throw of a number puts the bit of that number less 1 into the state behind it");
        JugglingRows x = new JugglingRows();
        x.begin(1);
        for (int height = 1; height <= 9; height++) {
            x.toss(height);
            Due.answer("behind " + height, x.juggler(0), 1 << (height - 1));
            x.undo();
        }
        x.toss(9);
        x.toss(0);
        Due.answer("behind 9 and 0", x.juggler(0), 128);
    }

    private static void stateForEver() {
        Due.sentence("The state of a clean row at a beat is that in which its throws can be made for ever, with no other balls");
        JugglingRows x = Due.withRows("71", "97531", "00000008", "9", "0", "80000008");
        for (int row = 0; row < 6; row++) {
            int many = x.rowOf(row, 0);
            int balls = x.rowOf(row, 2);
            for (int beat = 0; beat < many; beat++) {
                int state = x.stateOf(row, beat);
                int height = x.throwAt(row, beat);
                int then = (state >> 1) + (height == 0 ? 0 : 1 << (height - 1));
                Due.answer("bits of " + row + " at " + beat, Integer.bitCount(state), balls);
                Due.answer("behind " + row + " at " + beat, x.stateOf(row, beat + 1 < many ? beat + 1 : 0), then);
            }
        }
    }

    // ---- the juggler

    private static void theJuggler() {
        Due.sentence("The juggler has a state, at first 0");
        Due.answer("state", new JugglingRows().juggler(0), 0);
        Due.answer("balls", new JugglingRows().juggler(1), 0);
        handsByBeats();
        oneToEightBalls();
    }

    private static void handsByBeats() {
        Due.sentence("the hand 0 throws at even beats so far, the hand 1 at odd ones");
        JugglingRows x = Due.withRows("531", "3");
        Due.answer("at the beat 0", x.juggler(3), 0);
        x.begin(3);
        Due.answer("the beat 0", x.toss(3), 0);
        Due.answer("at the beat 1", x.juggler(3), 1);
        Due.answer("the beat 1", x.toss(3), 1);
        Due.answer("at the beat 2", x.juggler(3), 0);
        x.once(0);
        Due.answer("at the beat 5", x.juggler(3), 1);
        Due.answer("the beat 5", x.toss(4), 1);
        x.join(1);
        Due.answer("the beats", x.juggler(2), 7);
        Due.answer("the beat 7", x.toss(3), 1);
    }

    private static void oneToEightBalls() {
        Due.sentence("To begin with some balls, 1 to 8, makes the state that with the lowest as many bits, at the beat 0");
        JugglingRows x = new JugglingRows();
        int[] states = {1, 3, 7, 15, 31, 63, 127, 255};
        for (int balls = 1; balls <= 8; balls++) {
            Due.answer("begin " + balls, x.begin(balls), states[balls - 1]);
            Due.answer("the state", x.juggler(0), states[balls - 1]);
            Due.answer("the beat", x.juggler(2), 0);
            x.toss(9);
        }
        Due.answer("begin 0", x.begin(0), BAD);
        Due.answer("begin 9", x.begin(9), BAD);
    }

    // ---- joins

    private static void joins() {
        cleanAndAsManyBalls();
        rowOfNineBalls();
        fewestThrows();
        longestJoin();
        joinsOfEachThrow();
        lowestFirstThrow();
        lowestSecondThrow();
        stateIsSoAlready();
    }

    private static void cleanAndAsManyBalls() {
        Due.sentence("It can be if the row is clean and has as many balls as the juggler");
        JugglingRows x = Due.withRows("321", "222", "33", "4", "51", "0");
        x.begin(3);
        int[] wants = {NOTHING, NOTHING, 0, NOTHING, 1, NOTHING};
        for (int row = 0; row < wants.length; row++) {
            Due.answer("joinTo(" + row + ")", x.joinTo(row), wants[row]);
            Due.answer("joinAgain(" + row + ")", x.joinAgain(row), wants[row]);
        }
    }

    private static void rowOfNineBalls() {
        Due.sentence("It can be if the row has as many balls as the juggler, who has eight at most");
        JugglingRows x = Due.withRows("9", "8");
        x.begin(8);
        Due.answer("to nine balls", x.joinTo(0), NOTHING);
        Due.answer("to nine balls", x.joinAgain(0), NOTHING);
        Due.answer("to eight balls", x.joinTo(1), 0);
        Due.refused(x, "join of nine balls", () -> x.join(0), 5, 9);
    }

    private static void fewestThrows() {
        Due.sentence("The join told has the fewest throws");
        JugglingRows x = Due.withRows("40", "00000008");
        x.begin(2);
        Due.line(x, x.tellJoin(0), "3");
        Due.answer("joinTo", x.joinTo(0), 1);
        x.begin(1);
        Due.line(x, x.tellJoin(1), "8");
        Due.answer("joinTo", x.joinTo(1), 1);
    }

    private static void longestJoin() {
        Due.sentence("The join told has the fewest throws, were they nine");
        JugglingRows x = Due.withRows("1", "40", "8", "0000077");
        x.begin(1);
        x.toss(9);
        Due.line(x, x.tellJoin(0), "00000000");
        Due.answer("joinTo", x.joinTo(0), 8);
        Due.answer("joinAgain", x.joinAgain(0), 8);
        x.begin(2);
        x.toss(9);
        x.toss(9);
        Due.line(x, x.tellJoin(1), "00000003");
        x.begin(8);
        x.toss(9);
        Due.line(x, x.tellJoin(2), "7");
        x.begin(2);
        x.toss(5);
        x.toss(9);
        Due.line(x, x.tellJoin(3), "000111177");
        Due.answer("joinTo", x.joinTo(3), 9);
        Due.answer("joinAgain", x.joinAgain(3), 9);
        Due.answer("its last", x.joinThrow(3, 8), 7);
        Due.answer("behind its last", x.joinThrow(3, 9), NONE);
        Due.answer("made", x.join(3), 9);
        Due.answer("the state", x.juggler(0), 96);
    }

    private static void joinsOfEachThrow() {
        Due.sentence("A join to a row is a row of throws of the juggler by which the state becomes that of the row at the beat 0");
        JugglingRows x = Due.withRows("75319", "2", "00000008", "1");
        x.begin(5);
        Due.line(x, x.tellJoin(0), "9");
        Due.answer("joinAgain by 9", x.joinAgain(0), 1);
        Due.answer("joinTo by 9", x.joinTo(0), 1);
        x.begin(2);
        x.toss(3);
        Due.line(x, x.tellJoin(1), "1");
        Due.answer("joinAgain by 1", x.joinAgain(1), 1);
        Due.answer("joinTo by 1", x.joinTo(1), 1);
        x.begin(1);
        Due.line(x, x.tellJoin(2), "8");
        x.toss(2);
        Due.line(x, x.tellJoin(3), "0");
        Due.answer("joinAgain by 0", x.joinAgain(3), 1);
        Due.answer("made", x.join(3), 1);
        Due.answer("the state", x.juggler(0), 1);
    }

    private static void lowestFirstThrow() {
        Due.sentence("of several the one with the lowest first throw");
        JugglingRows x = Due.withRows("50055");
        x.begin(3);
        Due.line(x, x.tellJoin(0), "55");
        Due.answer("its first", x.joinThrow(0, 0), 5);
        Due.answer("its second", x.joinThrow(0, 1), 5);
    }

    /** "564" would be as short and begins alike; "645" and "753" begin higher. */
    private static void lowestSecondThrow() {
        Due.sentence("of these with the lowest second one, and so on");
        JugglingRows x = Due.withRows("00555");
        x.begin(3);
        Due.line(x, x.tellJoin(0), "555");
        Due.answer("its second", x.joinThrow(0, 1), 5);
        Due.answer("its third", x.joinThrow(0, 2), 5);
        Due.answer("made", x.join(0), 3);
        Due.answer("the state", x.juggler(0), 28);
        Due.answer("the highest", x.account(6), 5);
    }

    private static void stateIsSoAlready() {
        Due.sentence("it has none if the state is so already");
        JugglingRows x = Due.withRows("3", "531");
        x.begin(3);
        Due.answer("joinTo", x.joinTo(0), 0);
        Due.answer("joinAgain", x.joinAgain(1), 0);
        Due.answer("joinThrow", x.joinThrow(1, 0), NONE);
        Due.answer("join", x.join(1), 0);
        Due.answer("the beats", x.juggler(2), 0);
    }

    // ---- changing rows

    private static void changingRows() {
        turning();
        swapping();
        swappingFirstAndLast();
        lifting();
    }

    private static void turning() {
        Due.sentence("To turn a row moves its first throw to its end");
        JugglingRows x = Due.withRows("7", "12345678", "10");
        Due.answer("of one throw", x.turn(0), 7);
        Due.row(x, 0, "7");
        Due.answer("of eight throws", x.turn(1), 2);
        Due.row(x, 1, "23456781");
        Due.answer("to a throw of 0", x.turn(2), 0);
        Due.row(x, 2, "01");
    }

    private static void swapping() {
        Due.sentence("the throw of the one ahead becomes that of the other one and how many beats are between them together,"
            + " and that of the other one becomes that of the one ahead less as many");
        JugglingRows x = Due.withRows("441", "444");
        Due.answer("side by side", x.swap(0, 1, 2), 2);
        Due.row(x, 0, "423");
        Due.answer("two beats on", x.swap(1, 0, 2), 6);
        Due.row(x, 1, "642");
        Due.answer("and back", x.swap(1, 0, 2), 4);
        Due.row(x, 1, "444");
    }

    private static void swappingFirstAndLast() {
        Due.sentence("To swap two beats of a row exchanges their landings");
        JugglingRows x = Due.withRows("70000002", "80000001");
        Due.answer("to 9 and 0", x.swap(0, 0, 7), 9);
        Due.row(x, 0, "90000000");
        Due.answer("to 8 and 1", x.swap(1, 0, 7), 8);
        Due.row(x, 1, "80000001");
    }

    private static void lifting() {
        Due.sentence("To lift a row makes each throw 1 more");
        JugglingRows x = Due.withRows("0", "8", "01234567", "88888888");
        Due.answer("0", x.lift(0), 1);
        Due.row(x, 0, "1");
        Due.answer("8", x.lift(1), 9);
        Due.row(x, 1, "9");
        Due.answer("01234567", x.lift(2), NOTHING);
        Due.row(x, 2, "12345678");
        Due.answer("88888888", x.lift(3), 9);
        Due.row(x, 3, "99999999");
    }

    // ---- reasons

    private static void reasons() {
        reasonOne();
        reasonTwo();
        reasonThree();
        reasonFour();
        reasonFive();
        reasonSix();
        reasonSeven();
    }

    private static void reasonOne() {
        Due.sentence("1, there are 6 rows: 6");
        JugglingRows x = Due.withRows("1", "1", "1", "1", "1");
        Due.answer("the sixth", x.row(1, 1), 5);
        Due.refused(x, "the seventh", () -> x.row(1, 1), 1, 6);
    }

    private static void reasonTwo() {
        Due.sentence("2, a throw would be below 0 or above 9: the lowest beat of which it would");
        JugglingRows x = Due.withRows("8193", "00000009", "001", "990", "9000", "0990");
        Due.refused(x, "above 9 lifted", () -> x.lift(0), 2, 2);
        Due.refused(x, "the last beat lifted", () -> x.lift(1), 2, 7);
        Due.refused(x, "below 0", () -> x.swap(2, 0, 1), 2, 1);
        Due.refused(x, "above 9", () -> x.swap(3, 0, 1), 2, 0);
        Due.refused(x, "above 9 and below 0", () -> x.swap(5, 0, 2), 2, 0);
    }

    private static void reasonThree() {
        Due.sentence("3, the row is not clean: the lowest beat that clashes");
        JugglingRows x = Due.withRows("321", "53210", "00000010");
        x.begin(3);
        Due.refused(x, "join 321", () -> x.join(0), 3, 0);
        Due.refused(x, "once 53210", () -> x.once(1), 3, 1);
        Due.refused(x, "join 00000010", () -> x.join(2), 3, 6);
    }

    private static void reasonFour() {
        Due.sentence("4, the throw cannot be made: the state");
        JugglingRows x = Due.withRows("40");
        x.begin(2);
        Due.refused(x, "0 with a ball", () -> x.toss(0), 4, 3);
        Due.refused(x, "onto a ball", () -> x.toss(1), 4, 3);
        Due.refused(x, "a row of another state", () -> x.once(0), 4, 3);
        x.toss(9);
        x.toss(9);
        Due.refused(x, "without a ball", () -> x.toss(9), 4, 384);
    }

    private static void reasonFive() {
        Due.sentence("5, the row has other balls than the juggler: how many it has");
        JugglingRows x = Due.withRows("0", "9", "2", "4");
        x.begin(3);
        Due.refused(x, "none", () -> x.join(0), 5, 0);
        Due.refused(x, "nine", () -> x.once(1), 5, 9);
        Due.refused(x, "one less", () -> x.join(2), 5, 2);
        Due.refused(x, "one more", () -> x.once(3), 5, 4);
    }

    private static void reasonSix() {
        Due.sentence("6, the juggler has no balls: the beats so far");
        JugglingRows x = Due.withRows("0");
        Due.refused(x, "toss", () -> x.toss(0), 6, 0);
        x.begin(2);
        x.toss(2);
        x.undo();
        x.undo();
        Due.refused(x, "join", () -> x.join(0), 6, 0);
        x.save();
        x.begin(3);
        x.toss(3);
        x.restore();
        Due.refused(x, "once", () -> x.once(0), 6, 0);
    }

    private static void reasonSeven() {
        Due.sentence("7, the beats are not one ahead of the other: the one told first");
        JugglingRows x = Due.withRows("33333333");
        Due.refused(x, "the same, first", () -> x.swap(0, 0, 0), 7, 0);
        Due.refused(x, "the same, last", () -> x.swap(0, 7, 7), 7, 7);
        Due.refused(x, "one behind", () -> x.swap(0, 3, 2), 7, 3);
        Due.refused(x, "the last behind the first", () -> x.swap(0, 7, 0), 7, 7);
        Due.answer("one ahead", x.swap(0, 2, 3), 4);
    }

    private static void orderOfReasons() {
        sevenAheadOfTwo();
        sixAheadOfFour();
        sixAheadOfThreeAndFive();
        threeAheadOfFive();
        fiveAheadOfFour();
        reasonsInTexts();
    }

    private static void sevenAheadOfTwo() {
        Due.sentence("What is refused is refused for the first of the reasons that its method names: swap 7 ahead of 2");
        JugglingRows x = Due.withRows("990", "099");
        Due.refused(x, "the same beat of 9", () -> x.swap(0, 1, 1), 7, 1);
        Due.refused(x, "the other way round", () -> x.swap(1, 2, 0), 7, 2);
    }

    private static void sixAheadOfFour() {
        Due.sentence("What is refused is refused for the first of the reasons that its method names: toss 6 ahead of 4");
        JugglingRows x = new JugglingRows();
        for (int height = 0; height <= 9; height++) {
            int told = height;
            Due.refused(x, "toss " + told, () -> x.toss(told), 6, 0);
        }
    }

    private static void sixAheadOfThreeAndFive() {
        Due.sentence("What is refused is refused for the first of the reasons that its method names: join and once 6 ahead of 3 and 5");
        JugglingRows x = Due.withRows("53210", "3");
        Due.refused(x, "join of one that clashes", () -> x.join(0), 6, 0);
        Due.refused(x, "once of one that clashes", () -> x.once(0), 6, 0);
        Due.refused(x, "join of other balls", () -> x.join(1), 6, 0);
        Due.refused(x, "once of other balls", () -> x.once(1), 6, 0);
    }

    private static void threeAheadOfFive() {
        Due.sentence("What is refused is refused for the first of the reasons that its method names: join and once 3 ahead of 5 and 4");
        JugglingRows x = Due.withRows("53210");
        x.begin(8);
        x.toss(9);
        Due.refused(x, "join", () -> x.join(0), 3, 1);
        Due.refused(x, "once", () -> x.once(0), 3, 1);
    }

    private static void fiveAheadOfFour() {
        Due.sentence("What is refused is refused for the first of the reasons that its method names: once 5 ahead of 4");
        JugglingRows x = Due.withRows("51", "71");
        x.begin(3);
        Due.refused(x, "other balls and state", () -> x.once(1), 5, 4);
        Due.refused(x, "another state", () -> x.once(0), 4, 7);
    }

    private static void reasonsInTexts() {
        Due.sentence("What is refused is refused for the first of the reasons, within a text alike");
        String[] texts = {"1;1;1;1;1;1;1", "990;s001", "9;l0", "321;b3;c0", "53210;b2;r0", "b4;j0", "51;b3;r0", "2;b3;c0", "9;b8;r0", "j0",
            "0;c0", "0;r0", "33;s010", "33;b1;s011"};
        int[][] refusals = {{1, 6, 6}, {2, 0, 1}, {2, 0, 1}, {3, 0, 2}, {3, 1, 2}, {4, 15, 1}, {4, 7, 2}, {5, 2, 2}, {5, 9, 2}, {6, 0, 0},
            {6, 0, 1}, {6, 0, 1}, {7, 1, 1}, {7, 1, 2}};
        for (int number = 0; number < texts.length; number++) {
            JugglingRows x = new JugglingRows();
            Due.answer("read " + texts[number], Due.read(x, texts[number]), REFUSED);
            Due.refusal(x, refusals[number][0], refusals[number][1], refusals[number][2]);
            Due.alike("the stand", Due.stand(x), Due.stand(new JugglingRows()));
        }
    }

    // ---- lines

    private static void lines() {
        lineOfACleanRow();
        lineOfAClashingRow();
        lineOfTheState();
        lineOfAJoin();
    }

    private static void lineOfACleanRow() {
        Due.sentence("The line about a row has its throws, then \"=\" and its balls, if it is clean");
        JugglingRows x = Due.withRows("0", "9", "531", "99999999", "00000000");
        Due.line(x, x.tellRow(0), "0=0");
        Due.line(x, x.tellRow(1), "9=9");
        Due.line(x, x.tellRow(2), "531=3");
        Due.line(x, x.tellRow(3), "99999999=9");
        Due.line(x, x.tellRow(4), "00000000=0");
    }

    private static void lineOfAClashingRow() {
        Due.sentence("and otherwise \"!\" and the lowest beat that clashes");
        JugglingRows x = Due.withRows("10", "00000010", "53210");
        Due.line(x, x.tellRow(0), "10!0");
        Due.line(x, x.tellRow(1), "00000010!6");
        Due.line(x, x.tellRow(2), "53210!1");
    }

    private static void lineOfTheState() {
        Due.sentence("from the beat 0 up to the last one with a bit, but at least one sign");
        JugglingRows x = new JugglingRows();
        Due.line(x, x.tellState(), "-");
        x.begin(1);
        Due.line(x, x.tellState(), "x");
        x.toss(2);
        Due.line(x, x.tellState(), "-x");
        x.begin(8);
        Due.line(x, x.tellState(), "xxxxxxxx");
        x.toss(9);
        Due.line(x, x.tellState(), "xxxxxxx-x");
        x.begin(1);
        x.toss(9);
        Due.line(x, x.tellState(), "--------x");
    }

    private static void lineOfAJoin() {
        Due.sentence("The line about a join is the throws of the join, \"\" if it has none");
        JugglingRows x = Due.withRows("3", "51");
        x.begin(3);
        x.tellState();
        Due.line(x, x.tellJoin(0), "");
        Due.line(x, x.tellJoin(1), "4");
    }

    // ---- text

    private static void text() {
        oneOrMoreCommands();
        oneToEightDigits();
        commandsWithADigit();
        swapCommand();
        fullText();
    }

    private static void oneOrMoreCommands() {
        Due.sentence("A text of commands is a sequence of one or more commands with \";\" between them");
        Due.answer("none", new JugglingRows().read(), -100);
        Due.answer("one", Due.read(new JugglingRows(), "b3"), 1);
        Due.answer("two", Due.read(new JugglingRows(), "b3;b4"), 2);
        Due.answer("nothing ahead", Due.read(new JugglingRows(), ";b3"), -100);
        Due.answer("nothing behind", Due.read(new JugglingRows(), "b3;"), -103);
        Due.answer("nothing between", Due.read(new JugglingRows(), "b3;;b4"), -103);
        Due.answer("no sign between", Due.read(new JugglingRows(), "b3b4"), -102);
        Due.answer("another sign between", Due.read(new JugglingRows(), "b3:b4"), -102);
        Due.answer("a space between", Due.read(new JugglingRows(), "b3; b4"), -103);
    }

    private static void oneToEightDigits() {
        Due.sentence("one to eight digits add a row");
        JugglingRows x = new JugglingRows();
        Due.answer("one and eight", Due.read(x, "0;9;12345678;00000000;007"), 5);
        String[] rows = {"0", "9", "12345678", "00000000", "007"};
        for (int row = 0; row < rows.length; row++) {
            Due.row(x, row, rows[row]);
        }
        Due.answer("nine", Due.read(x, "123456789"), -108);
        Due.answer("nine zeros", Due.read(x, "000000000"), -108);
        Due.answer("rows", x.account(0), 5);
    }

    private static void commandsWithADigit() {
        JugglingRows x = Due.withRows("51", "1");
        Due.sentence("\"x\" digit drops one");
        Due.answer("x", Due.read(x, "x1"), 1);
        Due.row(x, 0, "51");
        Due.answer("rows", x.account(0), 1);
        Due.sentence("\"t\" digit turns one");
        Due.answer("t", Due.read(x, "t0"), 1);
        Due.row(x, 0, "15");
        Due.sentence("\"l\" digit lifts one");
        Due.answer("l", Due.read(x, "l0"), 1);
        Due.row(x, 0, "26");
        Due.sentence("\"b\" digit begins with balls");
        Due.answer("b", Due.read(x, "b4"), 1);
        Due.answer("the state", x.juggler(0), 15);
        Due.sentence("\"c\" digit makes the join to a row");
        Due.answer("c", Due.read(x, "c0"), 1);
        Due.answer("the joins", x.account(7), 1);
        Due.answer("the state", x.juggler(0), x.stateOf(0, 0));
        Due.sentence("\"r\" digit makes the throws of a row once");
        Due.answer("r", Due.read(x, "r0"), 1);
        Due.answer("the throws", x.account(4), x.juggler(2));
        Due.answer("the highest", x.account(6), 6);
        Due.sentence("\"j\" digit makes a throw");
        Due.answer("j", Due.read(x, "j9"), 1);
        Due.answer("the highest", x.account(6), 9);
        Due.answer("changes", x.account(10), 8);
    }

    private static void swapCommand() {
        Due.sentence("\"s\" digit digit digit swaps two beats of a row, which is told first");
        JugglingRows x = Due.withRows("33333333", "333");
        Due.answer("of the row 1", Due.read(x, "s102"), 1);
        Due.row(x, 0, "33333333");
        Due.row(x, 1, "531");
        Due.answer("no such beat", Due.read(x, "s108"), BAD);
        Due.answer("no such row", Due.read(x, "s801"), BAD);
        Due.answer("the last beat", Due.read(x, "s067"), 1);
        Due.row(x, 0, "33333342");
    }

    private static void fullText() {
        Due.sentence("A text of commands is a sequence of one or more commands, up to 70 characters");
        JugglingRows x = new JugglingRows();
        Due.answer("24 commands", Due.read(x, "b1;".repeat(23) + "5"), 24);
        Due.answer("begun", x.account(8), 23);
        Due.row(x, 0, "5");
        Due.answer("one change", x.account(10), 1);
        JugglingRows y = Due.withRows("1");
        Due.answer("35 commands", Due.read(y, "1;".repeat(34) + "1"), REFUSED);
        Due.refusal(y, 1, 6, 5);
    }

    private static void faultPosition() {
        firstCharacter();
        endsTooEarly();
        faultsOfAFullText();
        faultIsNotCarriedOut();
    }

    private static void firstCharacter() {
        Due.sentence("The fault position of a text is the index of its first character with which no such text can continue");
        String[] texts = {" ", "~", "q", "X0", "x;", "xx0", "x00", "x0x", "t ", "l-1", "b10", "jj", "c=", "r?", "s;", "sx", "s0;", "s00;",
            "s0000", "1x", "12345678x", "123456789", "1,2", "1;2;3;y", "b3 ;", "b3;j3;c0;r0;t0;l0;x0;s0124", "5/", "5:"};
        int[] faults = {0, 0, 0, 0, 1, 1, 2, 2, 1, 1, 2, 1, 1, 1, 1, 1, 2, 3,
            4, 1, 8, 8, 1, 6, 2, 25, 1, 1};
        for (int number = 0; number < texts.length; number++) {
            JugglingRows x = new JugglingRows();
            Due.answer("read " + texts[number], Due.read(x, texts[number]), -100 - faults[number]);
        }
    }

    private static void endsTooEarly() {
        Due.sentence("or its length if it ends too early");
        String[] texts = {"", "x", "t", "l", "b", "j", "c", "r", "s", "s0", "s01", "5;", "12345678;", "b3;s", "b3;s0", "b3;s01", "b3;j"};
        for (String told : texts) {
            Due.answer("read " + told, Due.read(new JugglingRows(), told), -100 - told.length());
        }
    }

    private static void faultsOfAFullText() {
        Due.sentence("The fault position of a text is its length if it ends too early, of 70 characters too");
        Due.answer("too early", Due.read(new JugglingRows(), "1;".repeat(35)), -170);
        Due.answer("an s too early", Due.read(new JugglingRows(), "b1;".repeat(23) + "s"), -170);
        Due.answer("the last character", Due.read(new JugglingRows(), "b1;".repeat(23) + "z"), -169);
        Due.answer("the 69th", Due.read(new JugglingRows(), "1;".repeat(34) + "xx"), -169);
    }

    private static void faultIsNotCarriedOut() {
        Due.sentence("-100 minus the fault position if the text is wrong, and none is carried out");
        JugglingRows x = new JugglingRows();
        Due.fails(x, "wrong at its end", () -> Due.read(x, "531;b3;"), -107);
        Due.fails(x, "wrong behind what would be refused", () -> Due.read(x, "j0;q"), -103);
        Due.answer("nothing refused", x.refusal(0), NOTHING);
        Due.fails(x, "wrong behind what would be BAD", () -> Due.read(x, "b0;x"), -104);
    }

    // ---- changes

    private static void changes() {
        eachIsAChange();
        othersAreNoChanges();
        eightAtMost();
    }

    private static void eachIsAChange() {
        Due.sentence("The changes are the successful calls of row, drop, turn, swap, lift, begin, toss, join, once and read");
        JugglingRows x = new JugglingRows();
        x.row(51, 2);
        Due.answer("row", x.account(10), 1);
        x.turn(0);
        Due.answer("turn", x.account(10), 2);
        x.swap(0, 0, 1);
        Due.answer("swap", x.account(10), 3);
        x.lift(0);
        Due.answer("lift", x.account(10), 4);
        x.drop(0);
        Due.answer("drop", x.account(10), 5);
        Due.read(x, "3");
        Due.answer("read", x.account(10), 6);
        x.begin(3);
        Due.answer("begin", x.account(10), 7);
        x.toss(3);
        Due.answer("toss", x.account(10), 8);
        x.save();
        x.restore();
        Due.answer("join", x.join(0), 0);
        Due.answer("join", x.account(10), 1);
        Due.answer("once", x.once(0), 1);
        Due.answer("once", x.account(10), 2);
    }

    private static void othersAreNoChanges() {
        Due.sentence("The changes are the successful calls of row, .. and read, and no others");
        JugglingRows x = Due.withRows("51");
        x.begin(3);
        x.toss(3);
        Due.answer("undone", x.undo(), 2);
        x.tellRow(0);
        x.tellState();
        x.tellJoin(0);
        x.append('5');
        x.save();
        x.rowOf(0, 0);
        x.isWell();
        x.mean();
        x.ranked(0, 0);
        x.joinTo(0);
        x.joinAgain(0);
        x.between(0, 0);
        Due.answer("as many as before", x.account(10), 2);
    }

    private static void eightAtMost() {
        Due.sentence("At most 8 of them can be undone, the latest first");
        JugglingRows x = new JugglingRows();
        int[] states = {1, 3, 7, 15, 31, 63, 127, 255, 1, 3};
        for (int change = 0; change < states.length; change++) {
            x.begin(1 + change % 8);
            Due.answer("to undo behind " + change, x.account(10), Math.min(change + 1, 8));
        }
        for (int left = 7; left >= 0; left--) {
            Due.answer("undo", x.undo(), left);
            Due.answer("the state", x.juggler(0), states[left + 1]);
        }
        Due.answer("one more", x.undo(), NOTHING);
        Due.answer("the state stays", x.juggler(0), 3);
    }

    // ---- in doubt

    private static void inDoubtOfRows() {
        clashingRowsAreChanged();
        clashesWithAHigherOne();
        oneThrowIsClean();
        zeroCanClash();
        betweenTwoBeats();
        periodDivides();
        toItself();
    }

    private static void clashingRowsAreChanged() {
        Due.sentence("A row that clashes can be added, turned, swapped and lifted");
        JugglingRows x = new JugglingRows();
        Due.answer("added", x.row(321, 3), 0);
        Due.answer("turned", x.turn(0), 2);
        Due.row(x, 0, "213");
        Due.answer("swapped", x.swap(0, 0, 1), 2);
        Due.row(x, 0, "213");
        Due.answer("lifted", x.lift(0), NOTHING);
        Due.row(x, 0, "324");
        Due.answer("four changes", x.account(10), 4);
        Due.answer("lifted within a text", Due.read(x, "l0"), 1);
        Due.row(x, 0, "435");
        Due.answer("undone", x.undo(), 4);
        Due.answer("and the other one", x.undo(), 3);
        Due.row(x, 0, "213");
    }

    private static void clashesWithAHigherOne() {
        Due.sentence("The lowest beat that clashes is the one that clashes with a higher one");
        JugglingRows x = Due.withRows("53210", "0210", "00000010");
        Due.answer("53210: 1 with 2", x.rowOf(0, 3), 1);
        Due.answer("0210: 1 with 2 and 3", x.rowOf(1, 3), 1);
        Due.answer("00000010: 6 with 7", x.rowOf(2, 3), 6);
    }

    private static void oneThrowIsClean() {
        Due.sentence("A row of one throw is always clean");
        for (int height = 0; height <= 9; height++) {
            JugglingRows x = new JugglingRows();
            x.row(height, 1);
            Due.answer("isClean of " + height, x.isClean(0), 1);
            Due.answer("isCleanAgain of " + height, x.isCleanAgain(0), 1);
            Due.answer("clash of " + height, x.rowOf(0, 3), NOTHING);
            Due.answer("balls of " + height, x.rowOf(0, 2), height);
        }
    }

    private static void zeroCanClash() {
        Due.sentence("A throw of 0 lands at its own beat, and can clash so");
        JugglingRows x = Due.withRows("10", "01", "20", "00");
        int[] clean = {0, 0, 1, 1};
        for (int row = 0; row < clean.length; row++) {
            Due.answer("isClean(" + row + ")", x.isClean(row), clean[row]);
            Due.answer("isCleanAgain(" + row + ")", x.isCleanAgain(row), clean[row]);
        }
    }

    private static void betweenTwoBeats() {
        Due.sentence("How many beats are between two is the greater one less the lesser one");
        JugglingRows x = Due.withRows("22222222");
        Due.answer("one", x.swap(0, 6, 7), 3);
        Due.row(x, 0, "22222231");
        Due.answer("seven", x.swap(0, 0, 7), REFUSED);
        Due.refusal(x, 2, 7, NOTHING);
        Due.answer("two", x.swap(0, 0, 2), 4);
        Due.row(x, 0, "42022231");
    }

    private static void periodDivides() {
        Due.sentence("The shortest period of a row divides its number of throws");
        JugglingRows x = Due.withRows("55555555", "51515151", "53135313", "515", "1234123", "12345678");
        int[] periods = {1, 2, 4, 3, 7, 8};
        for (int row = 0; row < periods.length; row++) {
            Due.answer("period of " + row, x.rowOf(row, 4), periods[row]);
        }
        JugglingRows y = Due.withRows("7", "121212", "1222", "11111112", "21111111", "12121211");
        int[] others = {1, 2, 4, 8, 8, 8};
        for (int row = 0; row < others.length; row++) {
            Due.answer("period of " + row, y.rowOf(row, 4), others[row]);
        }
    }

    private static void toItself() {
        Due.sentence("From a row to itself it takes no throws");
        JugglingRows x = Due.withRows("51", "9", "0", "00000008", "97531");
        for (int row = 0; row < 5; row++) {
            Due.answer("from " + row, x.between(row, row), 0);
        }
    }

    private static void inDoubtOfTheJuggler() {
        onceNeedsItsState();
        otherBallsAreLetGo();
        zerosCountAsThrows();
        beatsAnew();
        joinOfNoThrows();
        placeOfNoJoin();
        withoutBalls();
    }

    private static void onceNeedsItsState() {
        Due.sentence("To make the throws of a row once begins with its beat 0 and needs its state there");
        JugglingRows x = Due.withRows("51", "97531");
        x.begin(3);
        Due.refused(x, "not its state", () -> x.once(0), 4, 7);
        x.toss(4);
        x.toss(5);
        Due.answer("its state at the beat 1", x.juggler(0), x.stateOf(0, 1));
        Due.refused(x, "the state of its beat 1", () -> x.once(0), 4, 21);
        x.toss(1);
        Due.answer("its state at the beat 0", x.juggler(0), x.stateOf(0, 0));
        Due.answer("once", x.once(0), 2);
        Due.answer("the highest", x.account(6), 5);
        Due.answer("its state at the beat 0 again", x.juggler(0), 11);
    }

    private static void otherBallsAreLetGo() {
        Due.sentence("A juggler who begins anew lets all other balls go");
        JugglingRows x = new JugglingRows();
        x.begin(8);
        x.toss(9);
        Due.answer("with fewer", x.begin(1), 1);
        Due.answer("balls", x.juggler(1), 1);
        x.toss(9);
        Due.answer("with as many", x.begin(1), 1);
        Due.answer("the state", x.juggler(0), 1);
        Due.answer("with more", x.begin(2), 3);
        Due.answer("balls", x.juggler(1), 2);
    }

    private static void zerosCountAsThrows() {
        Due.sentence("Throws count as throws also if they are 0");
        JugglingRows x = Due.withRows("1", "30");
        x.begin(1);
        x.toss(3);
        x.toss(0);
        Due.answer("by toss", x.account(4), 2);
        Due.answer("beats by toss", x.juggler(2), 2);
        x.join(0);
        Due.answer("by join", x.account(4), 3);
        Due.answer("of a ball", x.account(5), 1);
        x.row(20, 2);
        Due.answer("once", x.once(2), 2);
        Due.answer("by once", x.account(4), 5);
        Due.answer("of a ball", x.account(5), 2);
        Due.answer("the throws of all rows", x.account(2), 5);
    }

    private static void beatsAnew() {
        Due.sentence("To begin counts beats from 0 anew, while the throws and joins made so far count on");
        JugglingRows x = Due.withRows("51");
        x.begin(3);
        x.join(0);
        x.once(0);
        x.begin(3);
        Due.answer("beats", x.juggler(2), 0);
        Due.answer("hand", x.juggler(3), 0);
        Due.answer("throws", x.account(4), 3);
        Due.answer("throws of a ball", x.account(5), 3);
        Due.answer("highest", x.account(6), 5);
        Due.answer("joins", x.account(7), 1);
        Due.answer("begun", x.account(8), 2);
        x.join(0);
        Due.answer("beats", x.juggler(2), 1);
        Due.answer("throws", x.account(4), 4);
        Due.answer("joins", x.account(7), 2);
    }

    private static void joinOfNoThrows() {
        Due.sentence("A join of no throws is a join");
        JugglingRows x = Due.withRows("3");
        x.begin(3);
        Due.answer("join", x.join(0), 0);
        Due.answer("joins", x.account(7), 1);
        Due.answer("changes", x.account(10), 3);
        Due.answer("throws", x.account(4), 0);
        Due.answer("undone", x.undo(), 2);
        Due.answer("joins", x.account(7), 0);
    }

    private static void placeOfNoJoin() {
        Due.sentence("Whether a join has a throw at a place is asked only if there is a join");
        JugglingRows x = Due.withRows("321", "4", "3");
        x.begin(3);
        int[] places = {-1, 0, 1, 99};
        for (int place : places) {
            Due.answer("to one that clashes at " + place, x.joinThrow(0, place), NOTHING);
            Due.answer("to one of other balls at " + place, x.joinThrow(1, place), NOTHING);
            Due.answer("of no throws at " + place, x.joinThrow(2, place), NONE);
        }
    }

    private static void withoutBalls() {
        Due.sentence("Without balls a throw of 0 is one that could be made,"
            + " and a join of no throws is told to a row of zeros, though nothing is thrown or joined then");
        JugglingRows x = Due.withRows("0", "000", "1", "10");
        Due.answer("could", x.could(0), 0);
        Due.answer("one throw", x.juggler(5), 1);
        for (int row = 0; row < 2; row++) {
            Due.answer("joinTo", x.joinTo(row), 0);
            Due.answer("joinAgain", x.joinAgain(row), 0);
            Due.answer("joinThrow", x.joinThrow(row, 0), NONE);
            x.tellState();
            Due.line(x, x.tellJoin(row), "");
        }
        Due.answer("to a row with a ball", x.joinTo(2), NOTHING);
        Due.answer("to a row that clashes", x.joinTo(3), NOTHING);
        Due.refused(x, "toss", () -> x.toss(0), 6, 0);
        Due.refused(x, "join", () -> x.join(0), 6, 0);
        Due.refused(x, "once", () -> x.once(1), 6, 0);
        Due.answer("read of a join", Due.read(x, "c0"), REFUSED);
    }

    // ---- errors

    private static void errors() {
        unchangedByErrorsOfRows();
        unchangedByErrorsOfTheJuggler();
        readEmptiesTheText();
        reasonsAreKept();
        listedFirst();
    }

    private static void unchangedByErrorsOfRows() {
        Due.sentence("A call that returns an error code leaves the state unchanged: rows");
        JugglingRows x = Due.withRows("98", "321");
        Due.fails(x, "row", () -> x.row(1, 9), BAD);
        Due.fails(x, "drop", () -> x.drop(2), NONE);
        Due.fails(x, "turn", () -> x.turn(2), NONE);
        Due.fails(x, "swap without beat", () -> x.swap(0, 0, 2), NONE);
        Due.fails(x, "swap", () -> x.swap(0, 1, 0), REFUSED);
        Due.fails(x, "lift", () -> x.lift(0), REFUSED);
        Due.fails(x, "restore", () -> x.restore(), NOTHING);
        Due.fails(x, "append", () -> x.append(31), BAD);
        Due.answer("the text stays", x.account(9), 0);
    }

    private static void unchangedByErrorsOfTheJuggler() {
        Due.sentence("A call that returns an error code leaves the state unchanged: the juggler");
        JugglingRows x = Due.withRows("98", "2");
        x.begin(2);
        x.toss(3);
        Due.fails(x, "begin", () -> x.begin(9), BAD);
        Due.fails(x, "toss", () -> x.toss(10), BAD);
        Due.fails(x, "toss", () -> x.toss(0), REFUSED);
        Due.fails(x, "join", () -> x.join(0), REFUSED);
        Due.fails(x, "once", () -> x.once(1), REFUSED);
        Due.fails(x, "once", () -> x.once(2), NONE);
        x.tellRow(1);
        Due.fails(x, "tellJoin", () -> x.tellJoin(0), NOTHING);
        Due.fails(x, "tellRow", () -> x.tellRow(2), NONE);
        Due.alike("the line stays", Due.lineOf(x), "2=2");
    }

    private static void readEmptiesTheText() {
        Due.sentence("except that read empties the text");
        JugglingRows x = new JugglingRows();
        Due.put(x, "5;q");
        Due.fails(x, "a wrong text", () -> x.read(), -102);
        Due.answer("empty", x.account(9), 0);
        Due.put(x, "5;j0");
        Due.fails(x, "a refused one", () -> x.read(), REFUSED);
        Due.answer("empty", x.account(9), 0);
        Due.put(x, "5;x1");
        Due.fails(x, "a BAD one", () -> x.read(), BAD);
        Due.answer("empty", x.account(9), 0);
        Due.put(x, "5");
        Due.answer("a right one", x.read(), 1);
        Due.answer("empty", x.account(9), 0);
        Due.answer("again", x.read(), -100);
    }

    private static void reasonsAreKept() {
        Due.sentence("and that reasons are kept");
        JugglingRows x = Due.withRows("3");
        Due.answer("refused within a text", Due.read(x, "b2;b3;j1;b0"), REFUSED);
        Due.refusal(x, 4, 7, 2);
        Due.answer("an error", x.begin(0), BAD);
        Due.answer("another one", x.drop(9), NONE);
        Due.answer("a wrong text", Due.read(x, "?"), -100);
        Due.answer("a BAD text", Due.read(x, "b0"), BAD);
        Due.answer("a success", x.begin(1), 1);
        Due.refusal(x, 4, 7, 2);
        Due.refused(x, "a later one", () -> x.join(0), 5, 3);
    }

    private static void listedFirst() {
        Due.sentence("If several errors apply, the one that is listed first is returned");
        JugglingRows x = Due.withRows("1", "1", "1", "1", "1", "21");
        Due.answer("row: BAD ahead of REFUSED", x.row(1, 0), BAD);
        Due.answer("row: BAD ahead of REFUSED", x.row(10, 1), BAD);
        Due.answer("row: BAD ahead of REFUSED", x.row(-1, 1), BAD);
        Due.answer("swap: NONE ahead of REFUSED, no row", x.swap(6, 1, 0), NONE);
        Due.answer("swap: NONE ahead of REFUSED, no beat", x.swap(5, 2, 0), NONE);
        Due.answer("swap: NONE ahead of REFUSED, no other", x.swap(5, 1, -1), NONE);
        Due.answer("toss: BAD ahead of REFUSED", x.toss(10), BAD);
        Due.answer("toss: BAD ahead of REFUSED", x.toss(-1), BAD);
        Due.answer("join: NONE ahead of REFUSED", x.join(6), NONE);
        Due.answer("once: NONE ahead of REFUSED", x.once(-1), NONE);
        Due.answer("nothing refused yet", x.refusal(0), NOTHING);
        Due.answer("rowOf: NONE ahead of BAD", x.rowOf(6, 8), NONE);
        Due.answer("stateOf: NONE ahead of NOTHING", x.stateOf(5, 2), NONE);
        Due.answer("joinTo: NONE ahead of NOTHING", x.joinTo(6), NONE);
        Due.answer("joinAgain: NONE ahead of NOTHING", x.joinAgain(6), NONE);
        Due.answer("joinThrow: NONE ahead of NOTHING", x.joinThrow(6, 0), NONE);
        Due.answer("between: NONE ahead of NOTHING", x.between(5, 6), NONE);
        Due.answer("ranked: BAD ahead of NONE", x.ranked(3, 6), BAD);
        Due.answer("tellJoin: NONE ahead of NOTHING", x.tellJoin(6), NONE);
        Due.answer("refusal: BAD ahead of NOTHING", x.refusal(3), BAD);
        Due.answer("read: the fault ahead of REFUSED", Due.read(x, "j0;j"), -104);
        Due.answer("read: the fault ahead of BAD", Due.read(x, "x9;x"), -104);
    }

    private static void keptByNeither() {
        snapshotOfAllChanges();
        neitherUndone();
        neitherRestored();
    }

    private static void snapshotOfAllChanges() {
        Due.sentence("The snapshot contains what changes can change");
        JugglingRows x = Due.withRows("51", "3");
        x.begin(3);
        x.join(0);
        x.toss(5);
        x.save();
        String[] saved = Due.stand(x).split(" to undo ");
        x.drop(1);
        x.lift(0);
        x.begin(4);
        x.toss(9);
        x.row(1, 1);
        Due.answer("restore", x.restore(), 2);
        Due.alike("the stand", Due.stand(x), saved[0] + " to undo 0");
        Due.read(x, "x0;b8;j9");
        x.restore();
        Due.alike("the stand again", Due.stand(x), saved[0] + " to undo 0");
    }

    private static void neitherUndone() {
        Due.sentence("The text, the line and the reasons are not in undo, and stay");
        JugglingRows x = Due.withRows("51");
        x.begin(3);
        Due.put(x, "b4");
        x.tellRow(0);
        x.toss(0);
        x.undo();
        x.undo();
        Due.answer("the text", x.account(9), 2);
        Due.alike("the line", Due.lineOf(x), "51=3");
        Due.refusal(x, 4, 7, NOTHING);
        Due.answer("the text's command", x.read(), 1);
        Due.answer("its state", x.juggler(0), 15);
    }

    private static void neitherRestored() {
        Due.sentence("The text, the line and the reasons are not in the snapshot, and stay");
        JugglingRows x = Due.withRows("51");
        x.begin(3);
        Due.put(x, "b");
        x.tellState();
        x.toss(0);
        x.save();
        Due.put(x, "4");
        x.tellRow(0);
        x.toss(1);
        x.begin(8);
        x.toss(7);
        x.restore();
        Due.answer("the text", x.account(9), 2);
        Due.alike("the line", Due.lineOf(x), "51=3");
        Due.refusal(x, 4, 255, NOTHING);
        Due.answer("the text's command", x.read(), 1);
        Due.answer("its state", x.juggler(0), 15);
    }

    private static void constants() {
        Due.sentence("NONE = -1");
        Due.answer("NONE", JugglingRows.NONE, -1);
        Due.sentence("BAD = -2");
        Due.answer("BAD", JugglingRows.BAD, -2);
        Due.sentence("REFUSED = -3");
        Due.answer("REFUSED", JugglingRows.REFUSED, -3);
        Due.sentence("NOTHING = -4");
        Due.answer("NOTHING", JugglingRows.NOTHING, -4);
    }
}
