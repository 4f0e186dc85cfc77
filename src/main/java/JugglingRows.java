import java.util.Arrays;

/** Juggling told by rows of numbers, as ../shared/DOC.md promises it. */
public final class JugglingRows {
    public static final int NONE = -1;
    public static final int BAD = -2;
    public static final int REFUSED = -3;
    public static final int NOTHING = -4;

    private static final int MOST_ROWS = 6;
    private static final int MOST_THROWS = 8;
    private static final int MOST_BALLS = 8;
    private static final int HIGHEST = 9;
    private static final int BEATS_AHEAD = 9;
    private static final int STATES = 512;
    private static final int MOST_UNDONE = 8;
    private static final int MOST_CHARACTERS = 70;
    private static final int LONGEST_LINE = 10;
    /** No two states lie further apart: a test looks at each two of them. */
    private static final int LONGEST_JOIN = 9;
    private static final int FAULT = -100;

    private static final int NO_ROOM = 1;
    private static final int NOT_A_THROW = 2;
    private static final int NOT_CLEAN = 3;
    private static final int NOT_NOW = 4;
    private static final int OTHER_BALLS = 5;
    private static final int NO_BALLS = 6;
    private static final int NOT_AHEAD = 7;

    private final Stand now = new Stand();
    private final Stand before = new Stand();
    private final Stand snapshot = new Stand();
    private boolean hasSnapshot;
    private final Past past = new Past();
    private final Joins joins = new Joins();
    private final Line line = new Line();
    private final Text text = new Text();
    private final Refusals refusals = new Refusals();
    private final int[] rankKeys = new int[MOST_ROWS];

    public JugglingRows() {
    }

    // ---- rows

    public int row(int throwsTold, int many) {
        before.copyFrom(now);
        return keepChange(addRow(throwsTold, many));
    }

    public int drop(int row) {
        before.copyFrom(now);
        return keepChange(dropRow(row));
    }

    public int turn(int row) {
        before.copyFrom(now);
        return keepChange(turnRow(row));
    }

    public int swap(int row, int one, int other) {
        before.copyFrom(now);
        return keepChange(swapBeats(row, one, other));
    }

    public int lift(int row) {
        before.copyFrom(now);
        return keepChange(liftRow(row));
    }

    // ---- the juggler

    public int begin(int balls) {
        before.copyFrom(now);
        return keepChange(beginWith(balls));
    }

    public int toss(int height) {
        before.copyFrom(now);
        return keepChange(makeThrow(height));
    }

    public int join(int row) {
        before.copyFrom(now);
        return keepChange(makeJoin(row));
    }

    public int once(int row) {
        before.copyFrom(now);
        return keepChange(makeRowOnce(row));
    }

    // ---- what there is

    public int rowOf(int row, int what) {
        Row told = now.rowNumbered(row);
        if (told == null) {
            return NONE;
        }
        switch (what) {
            case 0:
                return told.length;
            case 1:
                return told.sum();
            case 2:
                return told.balls();
            case 3:
                return told.lowestClash();
            case 4:
                return told.period();
            case 5:
                return told.greatest();
            case 6:
                return told.throwsToOtherHand();
            case 7:
                return told.statesDiffer();
            default:
                return BAD;
        }
    }

    public int throwAt(int row, int beat) {
        Row told = now.rowNumbered(row);
        if (told == null || !told.hasBeat(beat)) {
            return NONE;
        }
        return told.heightAt(beat);
    }

    public int isClean(int row) {
        Row told = now.rowNumbered(row);
        if (told == null) {
            return NONE;
        }
        return told.marksEachLanding() ? 1 : 0;
    }

    public int isCleanAgain(int row) {
        Row told = now.rowNumbered(row);
        if (told == null) {
            return NONE;
        }
        return told.lowestClash() == NOTHING ? 1 : 0;
    }

    public int stateOf(int row, int beat) {
        Row told = now.rowNumbered(row);
        if (told == null || !told.hasBeat(beat)) {
            return NONE;
        }
        return told.marksEachLanding() ? told.stateAt(beat) : NOTHING;
    }

    public int juggler(int what) {
        switch (what) {
            case 0:
                return now.state;
            case 1:
                return now.balls();
            case 2:
                return now.beats;
            case 3:
                return now.beats & 1;
            case 4:
                return now.state & 1;
            case 5:
                return countPossible(now.state);
            default:
                return BAD;
        }
    }

    public int could(int place) {
        int found = 0;
        for (int height = 0; height <= HIGHEST; height++) {
            if (canMake(now.state, height)) {
                if (found == place) {
                    return height;
                }
                found++;
            }
        }
        return NONE;
    }

    // ---- joins, orders

    public int joinTo(int row) {
        Row told = now.rowNumbered(row);
        if (told == null) {
            return NONE;
        }
        return hasJoin(told) ? joins.countOnward(now.state, told.stateAt(0)) : NOTHING;
    }

    public int joinAgain(int row) {
        Row told = now.rowNumbered(row);
        if (told == null) {
            return NONE;
        }
        return hasJoin(told) ? joins.countBack(now.state, told.stateAt(0)) : NOTHING;
    }

    public int joinThrow(int row, int place) {
        Row told = now.rowNumbered(row);
        if (told == null) {
            return NONE;
        }
        if (!hasJoin(told)) {
            return NOTHING;
        }
        int many = joins.find(now.state, told.stateAt(0));
        return place >= 0 && place < many ? joins.heightAt(place) : NONE;
    }

    public int between(int row, int other) {
        Row from = now.rowNumbered(row);
        Row to = now.rowNumbered(other);
        if (from == null || to == null) {
            return NONE;
        }
        int balls = from.balls();
        if (balls == NOTHING || balls != to.balls()) {
            return NOTHING;
        }
        return joins.countOnward(from.stateAt(0), to.stateAt(0));
    }

    public int ranked(int kind, int place) {
        if (kind < 0 || kind > 2) {
            return BAD;
        }
        if (place < 0 || place >= now.count) {
            return NONE;
        }
        for (int row = 0; row < now.count && row < rankKeys.length; row++) {
            rankKeys[row] = rankKey(kind, row);
        }
        for (int row = 0; row < now.count; row++) {
            if (countAhead(row) == place) {
                return row;
            }
        }
        return NONE;
    }

    // ---- lines, texts, accounts

    public int tellRow(int row) {
        Row told = now.rowNumbered(row);
        if (told == null) {
            return NONE;
        }
        line.clear();
        for (int beat = 0; beat < told.length; beat++) {
            line.putDigit(told.heightAt(beat));
        }
        int clash = told.lowestClash();
        if (clash == NOTHING) {
            line.put('=');
            line.putDigit(told.balls());
        } else {
            line.put('!');
            line.putDigit(clash);
        }
        return line.length;
    }

    public int tellState() {
        line.clear();
        int rest = now.state;
        for (int beat = 0; beat < BEATS_AHEAD && (beat == 0 || rest != 0); beat++) {
            line.put((rest & 1) != 0 ? 'x' : '-');
            rest = rest >> 1;
        }
        return line.length;
    }

    public int tellJoin(int row) {
        Row told = now.rowNumbered(row);
        if (told == null) {
            return NONE;
        }
        if (!hasJoin(told)) {
            return NOTHING;
        }
        int many = joins.find(now.state, told.stateAt(0));
        line.clear();
        for (int place = 0; place < many; place++) {
            line.putDigit(joins.heightAt(place));
        }
        return line.length;
    }

    public int sign(int index) {
        return line.codeAt(index);
    }

    public int append(int code) {
        return text.put(code) ? text.length : BAD;
    }

    public int read() {
        int fault = text.faultPosition();
        int answer = fault == NONE ? carryOutAll() : FAULT - fault;
        refusals.commandNow = NOTHING;
        text.clear();
        return answer;
    }

    public int refusal(int what) {
        if (what < 0 || what > 2) {
            return BAD;
        }
        if (refusals.reason == 0) {
            return NOTHING;
        }
        if (what == 0) {
            return refusals.reason;
        }
        return what == 1 ? refusals.detail : refusals.command;
    }

    public int account(int what) {
        switch (what) {
            case 0:
                return now.count;
            case 1:
                return now.countClean();
            case 2:
                return now.countThrows();
            case 3:
                return now.ballsOfCleanRows();
            case 4:
                return now.thrown;
            case 5:
                return now.thrownBalls;
            case 6:
                return now.highestThrown;
            case 7:
                return now.joined;
            case 8:
                return now.begun;
            case 9:
                return text.length;
            case 10:
                return past.kept;
            default:
                return BAD;
        }
    }

    public int isWell() {
        for (int row = 0; row < now.count; row++) {
            Row told = now.rowNumbered(row);
            if (told != null && !isRowWell(told)) {
                return 0;
            }
        }
        return 1;
    }

    public int mean() {
        int number = now.countThrows();
        if (number <= 0) {
            return NOTHING;
        }
        return bitsOf((float) now.sumOfThrows() / (float) number);
    }

    // ---- undo and snapshot

    public int undo() {
        return past.takeBack(now) ? past.kept : NOTHING;
    }

    public int save() {
        snapshot.copyFrom(now);
        hasSnapshot = true;
        return now.count;
    }

    public int restore() {
        if (!hasSnapshot) {
            return NOTHING;
        }
        now.copyFrom(snapshot);
        past.forget();
        return now.count;
    }

    // ---- changes, each carried out by its call and by its command alike

    private int addRow(int throwsTold, int many) {
        if (many < 1 || many > MOST_THROWS || throwsTold < 0 || throwsTold >= powerOfTen(many)) {
            return BAD;
        }
        if (now.count >= MOST_ROWS) {
            return refusals.refuse(NO_ROOM, MOST_ROWS);
        }
        return now.appendRow(throwsTold, many);
    }

    private int dropRow(int row) {
        return now.removeRow(row) ? now.count : NONE;
    }

    private int turnRow(int row) {
        Row told = now.rowNumbered(row);
        if (told == null) {
            return NONE;
        }
        told.moveFirstToEnd();
        return told.heightAt(0);
    }

    private int swapBeats(int row, int one, int other) {
        Row told = now.rowNumbered(row);
        if (told == null || !told.hasBeat(one) || !told.hasBeat(other)) {
            return NONE;
        }
        if (one >= other) {
            return refusals.refuse(NOT_AHEAD, one);
        }
        int heightOfOne = told.heightAt(other) + (other - one);
        int heightOfOther = told.heightAt(one) - (other - one);
        if (heightOfOne > HIGHEST) {
            return refusals.refuse(NOT_A_THROW, one);
        }
        if (heightOfOther < 0) {
            return refusals.refuse(NOT_A_THROW, other);
        }
        told.setHeight(one, heightOfOne);
        told.setHeight(other, heightOfOther);
        return heightOfOne;
    }

    private int liftRow(int row) {
        Row told = now.rowNumbered(row);
        if (told == null) {
            return NONE;
        }
        for (int beat = 0; beat < told.length; beat++) {
            if (told.heightAt(beat) >= HIGHEST) {
                return refusals.refuse(NOT_A_THROW, beat);
            }
        }
        for (int beat = 0; beat < told.length; beat++) {
            told.setHeight(beat, told.heightAt(beat) + 1);
        }
        return told.balls();
    }

    private int beginWith(int balls) {
        if (balls < 1 || balls > MOST_BALLS) {
            return BAD;
        }
        now.state = (1 << balls) - 1;
        now.beats = 0;
        now.begun++;
        return now.state;
    }

    private int makeThrow(int height) {
        if (height < 0 || height > HIGHEST) {
            return BAD;
        }
        if (now.balls() == 0) {
            return refusals.refuse(NO_BALLS, now.beats);
        }
        if (!canMake(now.state, height)) {
            return refusals.refuse(NOT_NOW, now.state);
        }
        int hand = now.beats & 1;
        now.throwOne(height);
        return hand;
    }

    private int makeJoin(int row) {
        Row told = now.rowNumbered(row);
        if (told == null) {
            return NONE;
        }
        if (isOutOfReach(told)) {
            return REFUSED;
        }
        int many = joins.find(now.state, told.stateAt(0));
        for (int place = 0; place < many; place++) {
            now.throwOne(joins.heightAt(place));
        }
        now.joined++;
        return many;
    }

    private int makeRowOnce(int row) {
        Row told = now.rowNumbered(row);
        if (told == null) {
            return NONE;
        }
        if (isOutOfReach(told)) {
            return REFUSED;
        }
        if (now.state != told.stateAt(0)) {
            return refusals.refuse(NOT_NOW, now.state);
        }
        for (int beat = 0; beat < told.length; beat++) {
            now.throwOne(told.heightAt(beat));
        }
        return told.length;
    }

    /** Keeps the reason, if the juggler cannot come to the row. */
    private boolean isOutOfReach(Row told) {
        if (now.balls() == 0) {
            refusals.refuse(NO_BALLS, now.beats);
            return true;
        }
        int clash = told.lowestClash();
        if (clash != NOTHING) {
            refusals.refuse(NOT_CLEAN, clash);
            return true;
        }
        int balls = told.balls();
        if (balls != now.balls()) {
            refusals.refuse(OTHER_BALLS, balls);
            return true;
        }
        return false;
    }

    private int keepChange(int answer) {
        if (!isError(answer)) {
            past.keep(before);
        }
        return answer;
    }

    /** NOTHING is no error of a change: a lifted row that clashes answers it. */
    private static boolean isError(int answer) {
        return answer == NONE || answer == BAD || answer == REFUSED;
    }

    // ---- commands

    private int carryOutAll() {
        before.copyFrom(now);
        int done = 0;
        int start = 0;
        for (int command = 0; command < MOST_CHARACTERS && start < text.length; command++) {
            refusals.commandNow = command;
            int answer = carryOut(start);
            if (isError(answer)) {
                now.copyFrom(before);
                return answer == REFUSED ? REFUSED : BAD;
            }
            start = text.endOfCommand(start) + 1;
            done++;
        }
        past.keep(before);
        return done;
    }

    private int carryOut(int start) {
        int first = text.digitAt(start + 1);
        switch (text.codeAt(start)) {
            case 'x':
                return dropRow(first);
            case 't':
                return turnRow(first);
            case 's':
                return swapBeats(first, text.digitAt(start + 2), text.digitAt(start + 3));
            case 'l':
                return liftRow(first);
            case 'b':
                return beginWith(first);
            case 'j':
                return makeThrow(first);
            case 'c':
                return makeJoin(first);
            case 'r':
                return makeRowOnce(first);
            default:
                return addRow(text.numberAt(start), text.endOfCommand(start) - start);
        }
    }

    // ---- states, joins, orders, the mean

    private static boolean canMake(int state, int height) {
        boolean hasBallNow = (state & 1) != 0;
        if (height == 0) {
            return !hasBallNow;
        }
        return hasBallNow && (state & (1 << height)) == 0;
    }

    private static int stateBehind(int state, int height) {
        int nearer = state >> 1;
        return height == 0 ? nearer : nearer | (1 << (height - 1));
    }

    private static int countPossible(int state) {
        int many = 0;
        for (int height = 0; height <= HIGHEST; height++) {
            if (canMake(state, height)) {
                many++;
            }
        }
        return many;
    }

    /** A row that clashes has NOTHING for its balls, which the juggler never has. */
    private boolean hasJoin(Row told) {
        return told.balls() == now.balls();
    }

    private int rankKey(int kind, int row) {
        Row told = now.rowNumbered(row);
        if (told == null) {
            return 0;
        }
        if (kind == 0) {
            return told.length;
        }
        if (kind == 2) {
            return told.greatest();
        }
        int balls = told.balls();
        return balls == NOTHING ? 1 : -balls;
    }

    private int countAhead(int row) {
        int ahead = 0;
        for (int other = 0; other < now.count; other++) {
            if (isAhead(other, row)) {
                ahead++;
            }
        }
        return ahead;
    }

    private boolean isAhead(int one, int other) {
        if (one < 0 || one >= rankKeys.length || other < 0 || other >= rankKeys.length) {
            return false;
        }
        return rankKeys[one] < rankKeys[other] || rankKeys[one] == rankKeys[other] && one < other;
    }

    private boolean isRowWell(Row told) {
        boolean clean = told.marksEachLanding();
        if (clean != (told.lowestClash() == NOTHING)) {
            return false;
        }
        if (!clean) {
            return true;
        }
        if (!told.statesHoldTheBalls()) {
            return false;
        }
        if (!hasJoin(told)) {
            return true;
        }
        int goal = told.stateAt(0);
        return joins.countOnward(now.state, goal) == joins.countBack(now.state, goal);
    }

    private static int powerOfTen(int exponent) {
        int power = 1;
        for (int times = 0; times < exponent && times < MOST_THROWS; times++) {
            power = power * 10;
        }
        return power;
    }

    /** The bits of a float from 0 to 9, found by sums and products that are exact. */
    private static int bitsOf(float value) {
        if (!(value > 0.0f)) {
            return 0;
        }
        float part = value;
        int exponent = 127;
        for (int step = 0; step < 127 && part >= 2.0f; step++) {
            part = part / 2.0f;
            exponent++;
        }
        for (int step = 0; step < 126 && part < 1.0f; step++) {
            part = part * 2.0f;
            exponent--;
        }
        return (exponent << 23) | (int) ((part - 1.0f) * 8388608.0f);
    }

    /** One row of throws; its place in a stand is made once and used again. */
    private static final class Row {
        int length;
        final int[] heights = new int[MOST_THROWS];

        void copyThrows(Row other) {
            length = other.length;
            System.arraycopy(other.heights, 0, heights, 0, MOST_THROWS);
        }

        void fill(int throwsTold, int many) {
            length = many;
            int rest = throwsTold;
            for (int beat = many - 1; beat >= 0; beat--) {
                setHeight(beat, rest % 10);
                rest = rest / 10;
            }
        }

        boolean hasBeat(int beat) {
            return beat >= 0 && beat < length;
        }

        int heightAt(int beat) {
            return beat >= 0 && beat < heights.length ? heights[beat] : 0;
        }

        void setHeight(int beat, int height) {
            if (beat >= 0 && beat < heights.length) {
                heights[beat] = height;
            }
        }

        void moveFirstToEnd() {
            int first = heightAt(0);
            for (int beat = 1; beat < length; beat++) {
                setHeight(beat - 1, heightAt(beat));
            }
            setHeight(length - 1, first);
        }

        int sum() {
            int sum = 0;
            for (int beat = 0; beat < length; beat++) {
                sum += heightAt(beat);
            }
            return sum;
        }

        int greatest() {
            int greatest = 0;
            for (int beat = 0; beat < length; beat++) {
                greatest = Math.max(greatest, heightAt(beat));
            }
            return greatest;
        }

        int throwsToOtherHand() {
            int many = 0;
            for (int beat = 0; beat < length; beat++) {
                many += heightAt(beat) & 1;
            }
            return many;
        }

        int landing(int beat) {
            if (length <= 0 || beat < 0 || beat >= heights.length) {
                return 0;
            }
            return (beat + heights[beat]) % length;
        }

        boolean marksEachLanding() {
            int marks = 0;
            for (int beat = 0; beat < length; beat++) {
                marks |= 1 << landing(beat);
            }
            return marks == (1 << length) - 1;
        }

        int lowestClash() {
            for (int beat = 0; beat < length; beat++) {
                for (int higher = beat + 1; higher < length; higher++) {
                    if (landing(beat) == landing(higher)) {
                        return beat;
                    }
                }
            }
            return NOTHING;
        }

        int balls() {
            return length > 0 && marksEachLanding() ? sum() / length : NOTHING;
        }

        /** Told for a clean row alone: what was thrown up to nine beats ago lands where it reaches past now. */
        int stateAt(int beat) {
            int state = 0;
            int source = beat;
            for (int back = 1; back <= HIGHEST; back++) {
                source = source > 0 ? source - 1 : length - 1;
                int ahead = heightAt(source) - back;
                if (ahead >= 0) {
                    state |= 1 << ahead;
                }
            }
            return state;
        }

        int period() {
            for (int many = 1; many < length; many++) {
                if (length % many == 0 && repeatsBy(many)) {
                    return many;
                }
            }
            return length;
        }

        boolean repeatsBy(int many) {
            for (int beat = 0; beat + many < length; beat++) {
                if (heightAt(beat) != heightAt(beat + many)) {
                    return false;
                }
            }
            return true;
        }

        int statesDiffer() {
            if (!marksEachLanding()) {
                return NOTHING;
            }
            int period = period();
            for (int beat = 0; beat < period; beat++) {
                for (int higher = beat + 1; higher < period; higher++) {
                    if (stateAt(beat) == stateAt(higher)) {
                        return 0;
                    }
                }
            }
            return 1;
        }

        boolean statesHoldTheBalls() {
            int balls = balls();
            for (int beat = 0; beat < length; beat++) {
                if (Integer.bitCount(stateAt(beat)) != balls) {
                    return false;
                }
            }
            return true;
        }
    }

    /** All that changes can change, and so what undo and the snapshot hold. */
    private static final class Stand {
        int count;
        final Row[] rows = new Row[MOST_ROWS];
        int state;
        int beats;
        int thrown;
        int thrownBalls;
        int highestThrown;
        int joined;
        int begun;

        Stand() {
            for (int row = 0; row < rows.length; row++) {
                rows[row] = new Row();
            }
        }

        void copyFrom(Stand other) {
            count = other.count;
            for (int row = 0; row < rows.length && row < other.rows.length; row++) {
                Row mine = rows[row];
                Row theirs = other.rows[row];
                if (mine != null && theirs != null) {
                    mine.copyThrows(theirs);
                }
            }
            state = other.state;
            beats = other.beats;
            thrown = other.thrown;
            thrownBalls = other.thrownBalls;
            highestThrown = other.highestThrown;
            joined = other.joined;
            begun = other.begun;
        }

        Row rowNumbered(int row) {
            return row >= 0 && row < count && row < rows.length ? rows[row] : null;
        }

        int appendRow(int throwsTold, int many) {
            count++;
            Row added = rowNumbered(count - 1);
            if (added != null) {
                added.fill(throwsTold, many);
            }
            return count - 1;
        }

        /** The dropped row goes behind the others, to be filled again. */
        boolean removeRow(int row) {
            Row dropped = rowNumbered(row);
            if (dropped == null) {
                return false;
            }
            for (int later = row + 1; later < count && later < rows.length; later++) {
                rows[later - 1] = rows[later];
            }
            count--;
            if (count >= 0 && count < rows.length) {
                rows[count] = dropped;
            }
            return true;
        }

        int balls() {
            return Integer.bitCount(state);
        }

        void throwOne(int height) {
            state = stateBehind(state, height);
            beats++;
            thrown++;
            if (height > 0) {
                thrownBalls++;
            }
            highestThrown = Math.max(highestThrown, height);
        }

        int countClean() {
            int many = 0;
            for (int row = 0; row < count; row++) {
                Row told = rowNumbered(row);
                if (told != null && told.marksEachLanding()) {
                    many++;
                }
            }
            return many;
        }

        int ballsOfCleanRows() {
            int many = 0;
            for (int row = 0; row < count; row++) {
                Row told = rowNumbered(row);
                if (told != null && told.marksEachLanding()) {
                    many += told.balls();
                }
            }
            return many;
        }

        int countThrows() {
            int many = 0;
            for (int row = 0; row < count; row++) {
                Row told = rowNumbered(row);
                if (told != null) {
                    many += told.length;
                }
            }
            return many;
        }

        int sumOfThrows() {
            int sum = 0;
            for (int row = 0; row < count; row++) {
                Row told = rowNumbered(row);
                if (told != null) {
                    sum += told.sum();
                }
            }
            return sum;
        }
    }

    /** Ways through the states; its arrays are made once, as no call may make new ones. */
    private static final class Joins {
        static final int UNSEEN = -1;

        final int[] steps = new int[STATES];
        final int[] queue = new int[STATES];
        int queued;
        final int[] heights = new int[LONGEST_JOIN];

        int countOnward(int from, int goal) {
            if (!isState(from) || !isState(goal)) {
                return NOTHING;
            }
            startAt(from);
            for (int next = 0; next < queued && next < queue.length && steps[goal] == UNSEEN; next++) {
                spreadOnward(queue[next]);
            }
            return steps[goal] == UNSEEN ? NOTHING : steps[goal];
        }

        /** Leaves in steps, for all states nearer to the goal than from, how far they are from it. */
        int countBack(int from, int goal) {
            if (!isState(from) || !isState(goal)) {
                return NOTHING;
            }
            startAt(goal);
            for (int next = 0; next < queued && next < queue.length && steps[from] == UNSEEN; next++) {
                spreadBack(queue[next]);
            }
            return steps[from] == UNSEEN ? NOTHING : steps[from];
        }

        /** The lowest throw that comes nearer, again and again, is the lowest join of the shortest. */
        int find(int from, int goal) {
            int many = countBack(from, goal);
            int state = from;
            for (int place = 0; place < many && place < heights.length; place++) {
                int height = lowestNearer(state, many - place - 1);
                heights[place] = height;
                state = stateBehind(state, height);
            }
            return many;
        }

        int heightAt(int place) {
            return place >= 0 && place < heights.length ? heights[place] : 0;
        }

        int lowestNearer(int state, int stepsThen) {
            for (int height = 0; height <= HIGHEST; height++) {
                if (canMake(state, height)) {
                    int behind = stateBehind(state, height);
                    if (isState(behind) && steps[behind] == stepsThen) {
                        return height;
                    }
                }
            }
            return 0;
        }

        void startAt(int state) {
            Arrays.fill(steps, UNSEEN);
            queued = 0;
            reach(state, 0);
        }

        void spreadOnward(int state) {
            if (!isState(state)) {
                return;
            }
            for (int height = 0; height <= HIGHEST; height++) {
                if (canMake(state, height)) {
                    reach(stateBehind(state, height), steps[state] + 1);
                }
            }
        }

        /** A state ahead that would need a beat 9 is none, and reach leaves it out. */
        void spreadBack(int state) {
            if (!isState(state)) {
                return;
            }
            reach(state << 1, steps[state] + 1);
            for (int height = 1; height <= HIGHEST; height++) {
                int landed = 1 << (height - 1);
                if ((state & landed) != 0) {
                    reach((state - landed) << 1 | 1, steps[state] + 1);
                }
            }
        }

        void reach(int state, int stepsTo) {
            if (state < 0 || state >= steps.length || queued < 0 || queued >= queue.length) {
                return;
            }
            if (steps[state] == UNSEEN) {
                steps[state] = stepsTo;
                queue[queued] = state;
                queued++;
            }
        }

        static boolean isState(int state) {
            return state >= 0 && state < STATES;
        }
    }

    /** The line told last. */
    private static final class Line {
        int length;
        final char[] characters = new char[LONGEST_LINE];

        void clear() {
            length = 0;
        }

        void put(char character) {
            if (length >= 0 && length < characters.length) {
                characters[length] = character;
                length++;
            }
        }

        void putDigit(int digit) {
            put((char) ('0' + digit));
        }

        int codeAt(int index) {
            return index >= 0 && index < length && index < characters.length ? characters[index] : NONE;
        }
    }

    /** The text of commands, and what its characters mean. */
    private static final class Text {
        int length;
        final char[] characters = new char[MOST_CHARACTERS];

        void clear() {
            length = 0;
        }

        boolean put(int code) {
            if (code < 32 || code > 126 || length < 0 || length >= characters.length) {
                return false;
            }
            characters[length] = (char) code;
            length++;
            return true;
        }

        int codeAt(int index) {
            return index >= 0 && index < length && index < characters.length ? characters[index] : NONE;
        }

        int digitAt(int index) {
            int code = codeAt(index);
            return code >= '0' && code <= '9' ? code - '0' : NONE;
        }

        int digitsFrom(int start, int most) {
            int many = 0;
            while (many < most && digitAt(start + many) != NONE) {
                many++;
            }
            return many;
        }

        static int digitsBehind(int letter) {
            switch (letter) {
                case 'x':
                case 't':
                case 'l':
                case 'b':
                case 'j':
                case 'c':
                case 'r':
                    return 1;
                case 's':
                    return 3;
                default:
                    return 0;
            }
        }

        /** NONE if the text is right. */
        int faultPosition() {
            int index = 0;
            for (int command = 0; command <= MOST_CHARACTERS; command++) {
                int wanted = digitsBehind(codeAt(index));
                int letters = wanted > 0 ? 1 : 0;
                int digits = digitsFrom(index + letters, wanted > 0 ? wanted : MOST_THROWS);
                index += letters + digits;
                if (digits == 0 || digits < wanted) {
                    return index;
                }
                if (index == length) {
                    return NONE;
                }
                if (codeAt(index) != ';') {
                    return index;
                }
                index++;
            }
            return index;
        }

        int endOfCommand(int start) {
            int end = start;
            while (end < length && codeAt(end) != ';') {
                end++;
            }
            return end;
        }

        int numberAt(int start) {
            int number = 0;
            int many = digitsFrom(start, MOST_THROWS);
            for (int place = 0; place < many; place++) {
                number = number * 10 + digitAt(start + place);
            }
            return number;
        }
    }

    /** What was refused last, and the command that is carried out now. */
    private static final class Refusals {
        int reason;
        int detail;
        int command;
        int commandNow = NOTHING;

        int refuse(int reasonNow, int detailNow) {
            reason = reasonNow;
            detail = detailNow;
            command = commandNow;
            return REFUSED;
        }
    }

    /** The stands ahead of the latest changes, in a ring. */
    private static final class Past {
        final Stand[] stands = new Stand[MOST_UNDONE];
        int next;
        int kept;

        Past() {
            for (int place = 0; place < stands.length; place++) {
                stands[place] = new Stand();
            }
        }

        void keep(Stand stand) {
            if (next < 0 || next >= stands.length) {
                return;
            }
            Stand place = stands[next];
            if (place == null) {
                return;
            }
            place.copyFrom(stand);
            next = next + 1 < stands.length ? next + 1 : 0;
            kept = Math.min(kept + 1, MOST_UNDONE);
        }

        boolean takeBack(Stand into) {
            int latest = next > 0 ? next - 1 : stands.length - 1;
            if (kept <= 0 || latest >= stands.length) {
                return false;
            }
            Stand place = stands[latest];
            if (place == null) {
                return false;
            }
            into.copyFrom(place);
            next = latest;
            kept--;
            return true;
        }

        void forget() {
            kept = 0;
        }
    }
}
