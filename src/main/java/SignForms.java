/**
 * Signs as numbers in rows of bytes, in six forms: taken by streams, parted, written, found by
 * places and put in order.
 */
public final class SignForms {
    public static final int NONE = -1, STATE = -2, ROOM = -3;

    private static final int RIGHT = NONE - 1;

    private static final int BYTES = 0, PAIRS_HIGH = 1, PAIRS_LOW = 2, FOURS_HIGH = 3, FOURS_LOW = 4;
    private static final int HALVED_BYTES = 5, NOT_FOUND = 6;

    private static final int REPLACE = 0, LEAVE_OUT = 1, BREAK = 2;

    private static final int BY_NUMBERS = 0, BY_PAIRS = 1, BY_LOW_BYTES = 2;

    private static final int STREAMS = 4;
    private static final int MOST_STREAM_BYTES = 2000;
    private static final int MOST_OUT_BYTES = 6000;
    private static final int MOST_PUT_BYTES = 8;
    private static final int MOST_ABOUT = 8;

    private static final int REPLACEMENT = 0xFFFD;
    private static final int MARK_SIGN = 0xFEFF;
    private static final int FIRST_HALVED = 0x10000;
    private static final int LAST_SIGN = 0x10FFFF;

    /** A stream that is not open is null here: its rows are made when it is first opened. */
    private final Stream[] streams;
    private final OutRow outRow;
    private final Part part;

    public SignForms() {
        streams = new Stream[STREAMS];
        outRow = new OutRow();
        part = new Part();
    }

    public boolean open(int stream, int form, int policy) {
        if (!isStream(stream) || form < BYTES || form > NOT_FOUND) {
            return false;
        }
        if (policy < REPLACE || policy > BREAK) {
            return false;
        }
        Stream opened = streams[stream];
        if (opened == null) {
            opened = new Stream();
            streams[stream] = opened;
        }
        opened.begin(form, policy);
        return true;
    }

    public int put(int stream, long w, int n) {
        if (!isStream(stream) || n < 1 || n > MOST_PUT_BYTES) {
            return NONE;
        }
        Stream taker = streams[stream];
        if (taker == null || taker.ended) {
            return STATE;
        }
        if (!taker.hasRoomFor(n)) {
            return ROOM;
        }
        for (int k = n - 1; k >= 0; k--) {
            taker.take((int) (w >>> (8 * k)) & 0xFF);
        }
        taker.decide();
        return taker.signCount;
    }

    public int pour(int stream, int i, int n) {
        if (!isStream(stream) || i < 0 || i > outRow.count || n < 0) {
            return NONE;
        }
        Stream taker = streams[stream];
        if (taker == null || taker.ended) {
            return STATE;
        }
        int poured = Math.min(n, outRow.count - i);
        if (!taker.hasRoomFor(poured)) {
            return ROOM;
        }
        for (int k = 0; k < poured; k++) {
            taker.take(outRow.byteAt(i + k));
        }
        taker.decide();
        return poured;
    }

    public int end(int stream) {
        if (!isStream(stream)) {
            return NONE;
        }
        Stream ending = streams[stream];
        if (ending == null || ending.ended) {
            return STATE;
        }
        ending.ended = true;
        ending.decide();
        return ending.signCount;
    }

    public int about(int stream, int what) {
        if (!isStream(stream) || what < 0 || what > MOST_ABOUT) {
            return NONE;
        }
        Stream asked = streams[stream];
        return asked == null ? STATE : asked.fact(what);
    }

    public int sign(int stream, int i) {
        Stream asked = openStream(stream);
        if (asked == null || !asked.hasSign(i)) {
            return NONE;
        }
        return asked.signs[i];
    }

    public int placed(int stream, int i, int what) {
        Stream asked = openStream(stream);
        if (asked == null || !asked.hasSign(i)) {
            return NONE;
        }
        switch (what) {
            case 0:
                return asked.places[i];
            case 1:
                return asked.lengths[i];
            case 2:
                return asked.replaced[i];
            default:
                return NONE;
        }
    }

    public int at(int stream, int place) {
        Stream asked = openStream(stream);
        return asked == null ? NONE : asked.signOver(place);
    }

    public int write(int stream, int form, boolean marked) {
        if (!isStream(stream) || !isWritable(form)) {
            return NONE;
        }
        Stream source = streams[stream];
        if (source == null) {
            return STATE;
        }
        int markBytes = marked ? bytesIn(form, MARK_SIGN) : 0;
        if (markBytes + source.bytesInForm(form, 0, source.signCount) > MOST_OUT_BYTES) {
            return ROOM;
        }
        outRow.count = 0;
        if (marked) {
            outRow.addSign(form, MARK_SIGN);
        }
        for (int i = 0; i < source.signCount; i++) {
            outRow.addSign(form, source.signs[i]);
        }
        return outRow.count;
    }

    public int size(int stream, int form, int from, int to) {
        if (!isStream(stream) || !isWritable(form)) {
            return NONE;
        }
        Stream asked = streams[stream];
        if (asked == null) {
            return STATE;
        }
        if (from < 0 || from > to || to > asked.signCount) {
            return NONE;
        }
        return asked.bytesInForm(form, from, to);
    }

    public int out(int i) {
        return outRow.byteAt(i);
    }

    public int check(int form) {
        if (!isWritable(form)) {
            return NONE;
        }
        int place = 0;
        for (int parts = 0; parts < MOST_OUT_BYTES && place < outRow.count; parts++) {
            part.look(outRow.bytes, place, outRow.count, form, true);
            if (!part.isSign) {
                return place;
            }
            place += part.length;
        }
        return RIGHT;
    }

    public int order(int first, int second, int way) {
        if (!isStream(first) || !isStream(second) || way < BY_NUMBERS || way > BY_LOW_BYTES) {
            return NONE;
        }
        Stream one = streams[first];
        Stream other = streams[second];
        if (one == null || other == null) {
            return STATE;
        }
        int both = Math.min(one.signCount, other.signCount);
        for (int i = 0; i < both; i++) {
            if (one.signs[i] != other.signs[i]) {
                return side(rank(one.signs[i], way), rank(other.signs[i], way));
            }
        }
        return side(one.signCount, other.signCount);
    }

    public int among(int stream, int from, int to) {
        if (!isStream(stream)) {
            return NONE;
        }
        Stream asked = streams[stream];
        return asked == null ? STATE : asked.countAmong(from, to);
    }

    private boolean isStream(int stream) {
        return stream >= 0 && stream < streams.length;
    }

    private Stream openStream(int stream) {
        return isStream(stream) ? streams[stream] : null;
    }

    private static boolean isWritable(int form) {
        return form >= BYTES && form <= HALVED_BYTES;
    }

    private static int side(long one, long other) {
        if (one == other) {
            return 0;
        }
        return one < other ? 1 : 2;
    }

    /**
     * A number by which two different signs stand in the order of a way. A sign of one pair is never
     * the first half of another, so that what fills its lower half up can't decide.
     */
    private static long rank(int sign, int way) {
        if (way == BY_NUMBERS) {
            return sign;
        }
        boolean halved = sign >= FIRST_HALVED;
        int upper = halved ? Halves.firstOf(sign) : sign;
        int lower = halved ? Halves.secondOf(sign) : 0;
        if (way == BY_LOW_BYTES) {
            upper = turned(upper);
            lower = turned(lower);
        }
        return ((long) upper << 16) + lower;
    }

    private static int turned(int pair) {
        return ((pair & 0xFF) << 8) + (pair >> 8);
    }

    /** How many bytes a sign takes in a form. */
    private static int bytesIn(int form, int sign) {
        switch (form) {
            case BYTES:
                return sign < FIRST_HALVED ? bytesBelowHalved(sign) : 4;
            case HALVED_BYTES:
                return sign < FIRST_HALVED ? bytesBelowHalved(sign) : 6;
            case PAIRS_HIGH:
            case PAIRS_LOW:
                return sign < FIRST_HALVED ? 2 : 4;
            default:
                return 4;
        }
    }

    private static int bytesBelowHalved(int sign) {
        if (sign < 0x80) {
            return 1;
        }
        return sign < 0x800 ? 2 : 3;
    }

    /** The two HALVES in which a sign of 10000 and more stands in pairs. */
    private static final class Halves {
        static boolean isFirst(int number) {
            return number >= 0xD800 && number <= 0xDBFF;
        }

        static boolean isSecond(int number) {
            return number >= 0xDC00 && number <= 0xDFFF;
        }

        static int firstOf(int sign) {
            return 0xD800 + ((sign - FIRST_HALVED) >> 10);
        }

        static int secondOf(int sign) {
            return 0xDC00 + ((sign - FIRST_HALVED) & 0x3FF);
        }

        static int joined(int first, int second) {
            return FIRST_HALVED + ((first - 0xD800) << 10) + (second - 0xDC00);
        }
    }

    /** The part that comes next in a row of bytes; one of length 0 is not decided yet. */
    private static final class Part {
        private static final int[] SECOND_HALF_LEAST = {0xED, 0xB0, 0x80};
        private static final int[] SECOND_HALF_MOST = {0xED, 0xBF, 0xBF};

        boolean isSign;
        int sign;
        int length;

        /** Looks at bytes from .. to - 1 of a row; when they are the last ones, all is decided. */
        void look(int[] row, int from, int to, int form, boolean last) {
            tellNothing();
            if (from < 0 || from >= to || to > row.length) {
                return;
            }
            switch (form) {
                case BYTES:
                case HALVED_BYTES:
                    lookAtBytes(row, from, to, form == HALVED_BYTES);
                    break;
                case PAIRS_HIGH:
                case PAIRS_LOW:
                    lookAtPairs(row, from, to, form == PAIRS_LOW);
                    break;
                default:
                    lookAtFour(row, from, to, form == FOURS_LOW);
                    break;
            }
            if (last && length == 0) {
                tellSubpart(cutLength(form, to - from));
            }
        }

        private void tellSign(int newSign, int newLength) {
            isSign = true;
            sign = newSign;
            length = newLength;
        }

        private void tellSubpart(int newLength) {
            isSign = false;
            sign = NONE;
            length = newLength;
        }

        private void tellNothing() {
            isSign = false;
            sign = NONE;
            length = 0;
        }

        /** A first half at the end is a SUBPART without the odd byte that may be behind it. */
        private static int cutLength(int form, int left) {
            boolean pairs = form == PAIRS_HIGH || form == PAIRS_LOW;
            return pairs ? Math.min(left, 2) : left;
        }

        private void lookAtBytes(int[] row, int from, int to, boolean halved) {
            int lead = row[from];
            int needed = neededBy(lead, halved);
            if (needed == 0) {
                tellSubpart(1);
                return;
            }
            int number = needed == 1 ? lead : lead & (0x7F >> needed);
            for (int k = 1; k < needed; k++) {
                if (from + k >= to) {
                    return;
                }
                int next = row[from + k];
                int least = k == 1 ? leastBehind(lead) : 0x80;
                int most = k == 1 ? mostBehind(lead, halved) : 0xBF;
                if (next < least || next > most) {
                    tellSubpart(k);
                    return;
                }
                number = (number << 6) + (next & 0x3F);
            }
            if (Halves.isFirst(number)) {
                lookAtSecondHalf(row, from, to, number);
            } else {
                tellSign(number, needed);
            }
        }

        /** How many bytes stand together behind a first one, itself too; 0: no sign begins so. */
        private static int neededBy(int lead, boolean halved) {
            if (lead < 0x80) {
                return 1;
            }
            if (lead < 0xC2) {
                return 0;
            }
            if (lead < 0xE0) {
                return 2;
            }
            if (lead < 0xF0) {
                return 3;
            }
            return lead <= 0xF4 && !halved ? 4 : 0;
        }

        /** Smaller second bytes would make numbers that stand in fewer bytes. */
        private static int leastBehind(int lead) {
            if (lead == 0xE0) {
                return 0xA0;
            }
            return lead == 0xF0 ? 0x90 : 0x80;
        }

        /** Greater second bytes would make halves that can't begin a sign, or numbers above all. */
        private static int mostBehind(int lead, boolean halved) {
            if (lead == 0xED) {
                return halved ? 0xAF : 0x9F;
            }
            return lead == 0xF4 ? 0x8F : 0xBF;
        }

        /**
         * The first half's three bytes came; a SUBPART may go on into what comes behind them. The mask
         * takes off what the fourth byte, a first one, has above its four bits of the number.
         */
        private void lookAtSecondHalf(int[] row, int from, int to, int first) {
            int number = 0;
            for (int k = 0; k < SECOND_HALF_LEAST.length; k++) {
                int place = from + 3 + k;
                if (place >= to) {
                    return;
                }
                int next = row[place];
                if (next < SECOND_HALF_LEAST[k] || next > SECOND_HALF_MOST[k]) {
                    tellSubpart(3 + k);
                    return;
                }
                number = (number << 6) + (next & 0x3F);
            }
            tellSign(Halves.joined(first, number & 0xFFFF), 6);
        }

        private void lookAtPairs(int[] row, int from, int to, boolean lowFirst) {
            if (from + 2 > to) {
                return;
            }
            int pair = unit(row, from, 2, lowFirst);
            if (Halves.isSecond(pair)) {
                tellSubpart(2);
                return;
            }
            if (!Halves.isFirst(pair)) {
                tellSign(pair, 2);
                return;
            }
            if (from + 4 > to) {
                return;
            }
            int next = unit(row, from + 2, 2, lowFirst);
            if (Halves.isSecond(next)) {
                tellSign(Halves.joined(pair, next), 4);
            } else {
                tellSubpart(2);
            }
        }

        private void lookAtFour(int[] row, int from, int to, boolean lowFirst) {
            if (from + 4 > to) {
                return;
            }
            int number = unit(row, from, 4, lowFirst);
            boolean half = Halves.isFirst(number) || Halves.isSecond(number);
            if (number >= 0 && number <= LAST_SIGN && !half) {
                tellSign(number, 4);
            } else {
                tellSubpart(4);
            }
        }

        private static int unit(int[] row, int from, int count, boolean lowFirst) {
            int number = 0;
            for (int k = 0; k < count; k++) {
                int place = lowFirst ? from + count - 1 - k : from + k;
                number = (number << 8) + row[place];
            }
            return number;
        }
    }

    /** One stream: the bytes that came, and the signs that they told. */
    private static final class Stream {
        /** The longer marks first, for FF FE begins one of four bytes too. */
        private static final int[] MARK_FORMS = {FOURS_HIGH, FOURS_LOW, BYTES, PAIRS_HIGH, PAIRS_LOW};
        private static final int[] MARK_LENGTHS = {4, 4, 3, 2, 2};
        private static final int[] MARK_BYTES = {
            0x00, 0x00, 0xFE, 0xFF,
            0xFF, 0xFE, 0x00, 0x00,
            0xEF, 0xBB, 0xBF, NONE,
            0xFE, 0xFF, NONE, NONE,
            0xFF, 0xFE, NONE, NONE,
        };
        private static final int MARK_WIDTH = 4;

        final int[] bytes;
        final int[] signs;
        final int[] places;
        final int[] lengths;
        final int[] replaced;
        final Part part;
        int form;
        int policy;
        int came;
        int decided;
        int signCount;
        int subparts;
        int firstSubpart;
        int brokenAt;
        boolean marked;
        boolean ended;

        Stream() {
            bytes = new int[MOST_STREAM_BYTES];
            signs = new int[MOST_STREAM_BYTES];
            places = new int[MOST_STREAM_BYTES];
            lengths = new int[MOST_STREAM_BYTES];
            replaced = new int[MOST_STREAM_BYTES];
            part = new Part();
        }

        void begin(int newForm, int newPolicy) {
            form = newForm;
            policy = newPolicy;
            came = 0;
            decided = 0;
            signCount = 0;
            subparts = 0;
            firstSubpart = NONE;
            brokenAt = NONE;
            marked = false;
            ended = false;
        }

        boolean hasRoomFor(int more) {
            return more <= bytes.length - came;
        }

        void take(int value) {
            if (came < bytes.length) {
                bytes[came] = value;
                came++;
            }
        }

        /** Tells all that the bytes that came decide. */
        void decide() {
            if (form == NOT_FOUND) {
                findForm();
            }
            if (form != NOT_FOUND) {
                tellParts();
            }
        }

        private void findForm() {
            for (int mark = 0; mark < MARK_FORMS.length; mark++) {
                int length = MARK_LENGTHS[mark];
                if (agrees(mark, Math.min(came, length))) {
                    if (came >= length) {
                        form = MARK_FORMS[mark];
                        marked = true;
                        decided = length;
                        return;
                    }
                    if (!ended) {
                        return;
                    }
                }
            }
            form = BYTES;
        }

        private boolean agrees(int mark, int count) {
            for (int k = 0; k < count; k++) {
                if (bytes[k] != MARK_BYTES[mark * MARK_WIDTH + k]) {
                    return false;
                }
            }
            return true;
        }

        private void tellParts() {
            for (int parts = 0; parts < MOST_STREAM_BYTES && decided < came; parts++) {
                if (brokenAt != NONE) {
                    decided = came;
                    return;
                }
                part.look(bytes, decided, came, form, ended);
                if (part.length < 1) {
                    return;
                }
                if (part.isSign) {
                    addSign(part.sign, 0);
                } else {
                    meetSubpart();
                }
                decided += part.length;
            }
        }

        private void meetSubpart() {
            subparts++;
            if (firstSubpart == NONE) {
                firstSubpart = decided;
            }
            if (policy == REPLACE) {
                addSign(REPLACEMENT, 1);
            } else if (policy == BREAK) {
                brokenAt = decided;
            }
        }

        private void addSign(int sign, int forSubpart) {
            if (signCount < signs.length) {
                signs[signCount] = sign;
                places[signCount] = decided;
                lengths[signCount] = part.length;
                replaced[signCount] = forSubpart;
                signCount++;
            }
        }

        int fact(int what) {
            switch (what) {
                case 0:
                    return form;
                case 1:
                    return came;
                case 2:
                    return signCount;
                case 3:
                    return subparts;
                case 4:
                    return came - decided;
                case 5:
                    return ended ? 1 : 0;
                case 6:
                    return brokenAt;
                case 7:
                    return marked ? 1 : 0;
                case 8:
                    return firstSubpart;
                default:
                    return NONE;
            }
        }

        boolean hasSign(int i) {
            return i >= 0 && i < signCount;
        }

        int signOver(int place) {
            for (int i = 0; i < signCount; i++) {
                if (place >= places[i] && place < places[i] + lengths[i]) {
                    return i;
                }
            }
            return NONE;
        }

        int bytesInForm(int wanted, int from, int to) {
            int sum = 0;
            for (int i = from; i < to; i++) {
                sum += bytesIn(wanted, signs[i]);
            }
            return sum;
        }

        int countAmong(int least, int most) {
            int count = 0;
            for (int i = 0; i < signCount; i++) {
                if (signs[i] >= least && signs[i] <= most) {
                    count++;
                }
            }
            return count;
        }
    }

    /** THE OUT. */
    private static final class OutRow {
        final int[] bytes;
        int count;

        OutRow() {
            bytes = new int[MOST_OUT_BYTES];
            count = 0;
        }

        int byteAt(int i) {
            return i >= 0 && i < count ? bytes[i] : NONE;
        }

        void addSign(int form, int sign) {
            boolean byHalves = form == PAIRS_HIGH || form == PAIRS_LOW || form == HALVED_BYTES;
            if (byHalves && sign >= FIRST_HALVED) {
                addNumber(form, Halves.firstOf(sign));
                addNumber(form, Halves.secondOf(sign));
            } else {
                addNumber(form, sign);
            }
        }

        private void addNumber(int form, int number) {
            int length = bytesIn(form, number);
            switch (form) {
                case BYTES:
                case HALVED_BYTES:
                    addBytes(number, length);
                    break;
                case PAIRS_LOW:
                case FOURS_LOW:
                    addLowFirst(number, length);
                    break;
                default:
                    addHighFirst(number, length);
                    break;
            }
        }

        private void addBytes(int number, int length) {
            if (length == 1) {
                add(number);
                return;
            }
            add(leadOf(length) + (number >> (6 * (length - 1))));
            for (int k = length - 2; k >= 0; k--) {
                add(0x80 + ((number >> (6 * k)) & 0x3F));
            }
        }

        private static int leadOf(int length) {
            if (length == 2) {
                return 0xC0;
            }
            return length == 3 ? 0xE0 : 0xF0;
        }

        private void addLowFirst(int number, int length) {
            for (int k = 0; k < length; k++) {
                add((number >> (8 * k)) & 0xFF);
            }
        }

        private void addHighFirst(int number, int length) {
            for (int k = length - 1; k >= 0; k--) {
                add((number >> (8 * k)) & 0xFF);
            }
        }

        private void add(int value) {
            if (count < bytes.length) {
                bytes[count] = value;
                count++;
            }
        }
    }
}
