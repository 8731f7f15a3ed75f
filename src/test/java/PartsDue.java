/**
 * Asks whether a row of bytes is parted as is due. Parts are told as text: "41/1 -/2 10FFFF/4" is the
 * sign 41 of one byte, a SUBPART of two, the sign 10FFFF of four.
 */
final class PartsDue {
    private static final int NONE = -1;
    private static final int[] PIECES = {1, 2, 3, 5, 8};

    private final Due due;

    PartsDue(Due due) {
        this.due = due;
    }

    /** A whole row, ended, in pieces of some sizes and by all three policies. */
    void are(int form, String row, String parts) {
        for (int piece : PIECES) {
            String name = "form " + form + ", " + row + " in pieces of " + piece;
            replaced(name, taken(form, 0, row, piece), parts);
            leftOut(name, taken(form, 1, row, piece), parts);
            broken(name, taken(form, 2, row, piece), parts);
        }
    }

    private static Counted taken(int form, int policy, String row, int piece) {
        Counted x = new Counted();
        x.open(1, form, policy);
        Rows.put(x, 1, row, piece);
        x.end(1);
        return x;
    }

    private static String[] words(String parts) {
        return parts.isEmpty() ? new String[0] : parts.split(" ");
    }

    private static int length(String part) {
        return Integer.parseInt(part.substring(part.indexOf('/') + 1));
    }

    private static boolean isSubpart(String part) {
        return part.startsWith("-");
    }

    private static int sign(String part) {
        return isSubpart(part) ? 0xFFFD : Integer.parseInt(part.substring(0, part.indexOf('/')), 16);
    }

    private static int firstSubpart(String parts) {
        int place = 0;
        for (String part : words(parts)) {
            if (isSubpart(part)) {
                return place;
            }
            place += length(part);
        }
        return NONE;
    }

    private static int subparts(String parts) {
        int count = 0;
        for (String part : words(parts)) {
            count += isSubpart(part) ? 1 : 0;
        }
        return count;
    }

    private void sign(String name, Counted x, int i, String part, int place) {
        due.is(name + ": sign " + i, x.sign(1, i), sign(part));
        due.is(name + ": place of " + i, x.placed(1, i, 0), place);
        due.is(name + ": bytes of " + i, x.placed(1, i, 1), length(part));
        due.is(name + ": " + i + " was a SUBPART", x.placed(1, i, 2), isSubpart(part) ? 1 : 0);
        due.is(name + ": first byte of " + i, x.at(1, place), i);
        due.is(name + ": last byte of " + i, x.at(1, place + length(part) - 1), i);
    }

    private void facts(String name, Counted x, int signs, int subparts, int broken, int first) {
        due.is(name + ": signs", x.about(1, 2), signs);
        due.is(name + ": SUBPARTS", x.about(1, 3), subparts);
        due.is(name + ": not decided", x.about(1, 4), 0);
        due.is(name + ": broken at", x.about(1, 6), broken);
        due.is(name + ": first SUBPART", x.about(1, 8), first);
        due.is(name + ": behind the last sign", x.sign(1, signs), NONE);
    }

    private void replaced(String name, Counted x, String parts) {
        String told = name + ", replaced";
        int place = 0;
        int i = 0;
        for (String part : words(parts)) {
            sign(told, x, i, part, place);
            place += length(part);
            i++;
        }
        facts(told, x, i, subparts(parts), NONE, firstSubpart(parts));
    }

    private void leftOut(String name, Counted x, String parts) {
        String told = name + ", left out";
        int place = 0;
        int i = 0;
        for (String part : words(parts)) {
            if (isSubpart(part)) {
                due.is(told + ": no sign at " + place, x.at(1, place), NONE);
            } else {
                sign(told, x, i, part, place);
                i++;
            }
            place += length(part);
        }
        facts(told, x, i, subparts(parts), NONE, firstSubpart(parts));
    }

    private void broken(String name, Counted x, String parts) {
        String told = name + ", broken";
        int first = firstSubpart(parts);
        int place = 0;
        int i = 0;
        for (String part : words(parts)) {
            if (first != NONE && place >= first) {
                due.is(told + ": no sign at " + place, x.at(1, place), NONE);
            } else {
                sign(told, x, i, part, place);
                i++;
            }
            place += length(part);
        }
        facts(told, x, i, first == NONE ? 0 : 1, first, first);
    }

    /** How many signs there are behind each byte of a row, and then, behind the end. */
    void told(int form, String row, String signs) {
        Counted x = new Counted();
        x.open(1, form, 0);
        StringBuilder text = new StringBuilder();
        for (int value : Rows.numbers(row)) {
            text.append(x.put(1, value, 1)).append(' ');
        }
        due.is("form " + form + ", " + row + ": signs byte by byte", text.toString() + x.end(1), signs);
    }

    /** What check answers for a row that another form can write. */
    void checked(int writer, String row, int form, int answer) {
        Counted x = new Counted();
        x.open(0, writer, 1);
        Rows.put(x, 0, row);
        String name = "check(" + form + ") of " + row;
        due.is(name + ", bytes of form " + writer, x.write(0, writer, false), Rows.numbers(row).length);
        due.is(name, x.check(form), answer);
        due.is(name + ", the row", Rows.out(x, 40), row);
    }

    /** What a sign stands in: written, and read again. */
    void stands(int form, String sign, String row) {
        Counted x = new Counted();
        Rows.signs(x, 0, sign);
        int count = Rows.numbers(row).length;
        String name = "form " + form + ", sign " + sign;
        due.is(name + ": size", x.size(0, form, 0, 1), count);
        due.is(name + ": write", x.write(0, form, false), count);
        due.is(name + ": THE OUT", Rows.out(x, 10), row);
        due.is(name + ": check", x.check(form), NONE - 1);
        are(form, row, sign + "/" + count);
    }
}
