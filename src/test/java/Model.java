import java.nio.charset.Charset;
import java.util.ArrayList;
import java.util.Arrays;
import java.util.HashSet;
import java.util.List;
import java.util.Set;

/**
 * The document's definitions worked out the slow way: every answer is made anew from all bytes that
 * came, with the sets of what signs stand in that Java's own charsets give.
 */
final class Model {
    private static final int NONE = -1, STATE = -2, ROOM = -3;
    private static final String[] CHARSETS = {"UTF-8", "UTF-16BE", "UTF-16LE", "UTF-32BE", "UTF-32LE", "CESU-8"};
    private static final int[] UNITS = {1, 2, 2, 4, 4, 1};
    private static final int SIGNS = 0x110000 - 0x800;
    private static final long[][] WHOLES = new long[6][SIGNS];
    private static final List<Set<Long>> BEGINNINGS = new ArrayList<>();
    private static final int[] MARK_POOL = {0x00, 0xFE, 0xFF, 0xEF, 0xBB, 0xBF, 0x41};

    static {
        for (int form = 0; form < 6; form++) {
            BEGINNINGS.add(new HashSet<>());
            for (int number = 0; number < SIGNS; number++) {
                int sign = number < 0xD800 ? number : number + 0x800;
                WHOLES[form][number] = learned(form, encoded(form, sign));
            }
            Arrays.sort(WHOLES[form]);
        }
    }

    private static long learned(int form, int[] row) {
        for (int length = UNITS[form]; length < row.length; length += UNITS[form]) {
            BEGINNINGS.get(form).add(key(row, 0, length));
        }
        return key(row, 0, row.length);
    }

    static int[] encoded(int form, int sign) {
        return unsigned(Character.toString(sign).getBytes(Charset.forName(CHARSETS[form])));
    }

    private static int[] unsigned(byte[] bytes) {
        int[] row = new int[bytes.length];
        for (int k = 0; k < row.length; k++) {
            row[k] = bytes[k] & 0xFF;
        }
        return row;
    }

    /** Java's charsets take a mark at the beginning away: another sign stands before it here. */
    private static int decoded(int form, int[] row, int from, int length) {
        Charset charset = Charset.forName(CHARSETS[form]);
        byte[] before = "A".getBytes(charset);
        byte[] bytes = Arrays.copyOf(before, before.length + length);
        for (int k = 0; k < length; k++) {
            bytes[before.length + k] = (byte) row[from + k];
        }
        return new String(bytes, charset).codePointAt(1);
    }

    /** Bytes as a number, with a 1 before them that tells how many they are. */
    private static long key(int[] row, int from, int length) {
        long key = 1;
        for (int k = 0; k < length; k++) {
            key = key << 8 | row[from + k];
        }
        return key;
    }

    /** One part of a row: a sign, or a SUBPART with sign NONE. */
    private record Part(int place, int length, int sign) { }

    /** The parts of a row from a place on that its bytes decide. */
    private static List<Part> parts(int form, int[] row, int from, boolean ended) {
        List<Part> parts = new ArrayList<>();
        int place = from;
        while (place < row.length) {
            Part part = part(form, row, place, ended);
            if (part == null) {
                return parts;
            }
            parts.add(part);
            place += part.length;
        }
        return parts;
    }

    private static Part part(int form, int[] row, int place, boolean ended) {
        int unit = UNITS[form];
        int left = row.length - place;
        int whole = left - left % unit;
        if (whole == 0) {
            return ended ? new Part(place, left, NONE) : null;
        }
        int longest = 0;
        for (int length = unit; length <= Math.min(whole, 6); length += unit) {
            long key = key(row, place, length);
            if (Arrays.binarySearch(WHOLES[form], key) >= 0) {
                return new Part(place, length, decoded(form, row, place, length));
            }
            if (BEGINNINGS.get(form).contains(key)) {
                longest = length;
            }
        }
        if (longest == whole && !ended) {
            return null;
        }
        return new Part(place, Math.max(longest, unit), NONE);
    }

    /** The form of an ended row, times ten, and how many bytes its mark has. */
    private static int foundAtEnd(int[] row) {
        String text = "";
        for (int k = 0; k < Math.min(row.length, 4); k++) {
            text += String.format("%02X", row[k]);
        }
        if (text.startsWith("EFBBBF")) {
            return 3;
        }
        if (text.equals("0000FEFF")) {
            return 34;
        }
        if (text.equals("FFFE0000")) {
            return 44;
        }
        if (text.startsWith("FEFF")) {
            return 12;
        }
        return text.startsWith("FFFE") ? 22 : 0;
    }

    /** As foundAtEnd, or NONE if bytes that may still come would change it. */
    private static int found(int[] row, boolean ended) {
        int now = foundAtEnd(row);
        return ended || row.length >= 4 || keeps(row, now) ? now : NONE;
    }

    private static boolean keeps(int[] row, int now) {
        if (foundAtEnd(row) != now) {
            return false;
        }
        if (row.length >= 4) {
            return true;
        }
        int[] longer = Arrays.copyOf(row, row.length + 1);
        for (int next : MARK_POOL) {
            longer[row.length] = next;
            if (!keeps(longer, now)) {
                return false;
            }
        }
        return true;
    }

    /** What a stream's bytes told, worked out from all of them. */
    private static final class View {
        int form;
        boolean marked;
        int subparts = 0;
        int firstSubpart = NONE;
        int broken = NONE;
        int undecided;
        final List<Part> signs = new ArrayList<>();
        final List<Integer> replaced = new ArrayList<>();
    }

    private static final class Stream {
        final int openedForm;
        final int policy;
        int[] row = new int[0];
        boolean ended = false;
        private View view = null;

        Stream(int form, int policy) {
            openedForm = form;
            this.policy = policy;
        }

        void come(int[] more) {
            int before = row.length;
            row = Arrays.copyOf(row, before + more.length);
            System.arraycopy(more, 0, row, before, more.length);
            view = null;
        }

        void finish() {
            ended = true;
            view = null;
        }

        View view() {
            if (view == null) {
                view = made();
            }
            return view;
        }

        private View made() {
            View made = new View();
            made.form = openedForm;
            int from = 0;
            if (openedForm == 6) {
                int found = found(row, ended);
                if (found == NONE) {
                    made.undecided = row.length;
                    return made;
                }
                made.form = found / 10;
                from = found % 10;
                made.marked = from > 0;
            }
            int behind = from;
            for (Part part : parts(made.form, row, from, ended)) {
                behind = part.place + part.length;
                if (part.sign == NONE) {
                    made.subparts++;
                    made.firstSubpart = made.firstSubpart == NONE ? part.place : made.firstSubpart;
                    if (policy == 2) {
                        made.broken = part.place;
                        behind = row.length;
                        break;
                    }
                    if (policy == 1) {
                        continue;
                    }
                }
                made.signs.add(part.sign == NONE ? new Part(part.place, part.length, 0xFFFD) : part);
                made.replaced.add(part.sign == NONE ? 1 : 0);
            }
            made.undecided = row.length - behind;
            return made;
        }
    }

    private final Stream[] streams = new Stream[4];
    private int[] out = new int[0];

    private static boolean within(int value, int least, int most) {
        return value >= least && value <= most;
    }

    boolean open(int stream, int form, int policy) {
        if (!within(stream, 0, 3) || !within(form, 0, 6) || !within(policy, 0, 2)) {
            return false;
        }
        streams[stream] = new Stream(form, policy);
        return true;
    }

    private int come(Stream taker, int[] more) {
        if (taker == null || taker.ended) {
            return STATE;
        }
        if (taker.row.length + more.length > 2000) {
            return ROOM;
        }
        taker.come(more);
        return 0;
    }

    int put(int stream, long w, int n) {
        if (!within(stream, 0, 3) || !within(n, 1, 8)) {
            return NONE;
        }
        int[] more = new int[n];
        for (int k = n - 1; k >= 0; k--) {
            more[k] = (int) (w & 0xFF);
            w >>= 8;
        }
        int refused = come(streams[stream], more);
        return refused < 0 ? refused : streams[stream].view().signs.size();
    }

    int pour(int stream, int i, int n) {
        if (!within(stream, 0, 3) || !within(i, 0, out.length) || n < 0) {
            return NONE;
        }
        int[] more = Arrays.copyOfRange(out, i, (int) Math.min(out.length, (long) i + n));
        int refused = come(streams[stream], more);
        return refused < 0 ? refused : more.length;
    }

    int end(int stream) {
        if (!within(stream, 0, 3)) {
            return NONE;
        }
        if (streams[stream] == null || streams[stream].ended) {
            return STATE;
        }
        streams[stream].finish();
        return streams[stream].view().signs.size();
    }

    int about(int stream, int what) {
        if (!within(stream, 0, 3) || !within(what, 0, 8)) {
            return NONE;
        }
        Stream asked = streams[stream];
        if (asked == null) {
            return STATE;
        }
        View view = asked.view();
        int[] facts = {view.form, asked.row.length, view.signs.size(), view.subparts, view.undecided,
            asked.ended ? 1 : 0, view.broken, view.marked ? 1 : 0, view.firstSubpart};
        return facts[what];
    }

    private List<Part> signs(int stream) {
        return within(stream, 0, 3) && streams[stream] != null ? streams[stream].view().signs : List.of();
    }

    int sign(int stream, int i) {
        return within(i, 0, signs(stream).size() - 1) ? signs(stream).get(i).sign : NONE;
    }

    int placed(int stream, int i, int what) {
        if (!within(i, 0, signs(stream).size() - 1) || !within(what, 0, 2)) {
            return NONE;
        }
        Part part = signs(stream).get(i);
        return new int[] {part.place, part.length, streams[stream].view().replaced.get(i)}[what];
    }

    int at(int stream, int place) {
        for (int i = 0; i < signs(stream).size(); i++) {
            Part part = signs(stream).get(i);
            if (within(place, part.place, part.place + part.length - 1)) {
                return i;
            }
        }
        return NONE;
    }

    private static int[] encodedAll(List<Part> signs, int form, boolean marked) {
        StringBuilder text = new StringBuilder(marked ? "\uFEFF" : "");
        for (Part part : signs) {
            text.appendCodePoint(part.sign);
        }
        return unsigned(text.toString().getBytes(Charset.forName(CHARSETS[form])));
    }

    int write(int stream, int form, boolean marked) {
        if (!within(stream, 0, 3) || !within(form, 0, 5)) {
            return NONE;
        }
        if (streams[stream] == null) {
            return STATE;
        }
        int[] row = encodedAll(signs(stream), form, marked);
        if (row.length > 6000) {
            return ROOM;
        }
        out = row;
        return row.length;
    }

    int size(int stream, int form, int from, int to) {
        if (!within(stream, 0, 3) || !within(form, 0, 5)) {
            return NONE;
        }
        if (streams[stream] == null) {
            return STATE;
        }
        if (from < 0 || from > to || to > signs(stream).size()) {
            return NONE;
        }
        return encodedAll(signs(stream).subList(from, to), form, false).length;
    }

    int out(int i) {
        return within(i, 0, out.length - 1) ? out[i] : NONE;
    }

    int check(int form) {
        if (!within(form, 0, 5)) {
            return NONE;
        }
        for (Part part : parts(form, out, 0, true)) {
            if (part.sign == NONE) {
                return part.place;
            }
        }
        return NONE - 1;
    }

    int order(int first, int second, int way) {
        if (!within(first, 0, 3) || !within(second, 0, 3) || !within(way, 0, 2)) {
            return NONE;
        }
        if (streams[first] == null || streams[second] == null) {
            return STATE;
        }
        int compared = Arrays.compare(numbers(first, way), numbers(second, way));
        return compared == 0 ? 0 : compared < 0 ? 1 : 2;
    }

    /** A row's numbers of a way: the signs, the pairs, or the bytes of form 2. */
    private int[] numbers(int stream, int way) {
        if (way == 0) {
            return signs(stream).stream().mapToInt(part -> part.sign).toArray();
        }
        int[] row = encodedAll(signs(stream), way, false);
        if (way == 2) {
            return row;
        }
        int[] pairs = new int[row.length / 2];
        for (int k = 0; k < pairs.length; k++) {
            pairs[k] = row[2 * k] << 8 | row[2 * k + 1];
        }
        return pairs;
    }

    int among(int stream, int from, int to) {
        if (!within(stream, 0, 3)) {
            return NONE;
        }
        if (streams[stream] == null) {
            return STATE;
        }
        return (int) signs(stream).stream().filter(part -> within(part.sign, from, to)).count();
    }
}
