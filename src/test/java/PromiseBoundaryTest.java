/**
 * Each sentence of the promises 1 to 15 that names a boundary case, in a test of its own. What is refused
 * is in RefusedTest.
 */
public final class PromiseBoundaryTest {
    private static final int NONE = -1, STATE = -2, ROOM = -3;
    private static final int RIGHT = -2;
    private static final int LOW = Integer.MIN_VALUE, HIGH = Integer.MAX_VALUE;
    private static final Due due = new Due();

    public static void main(String[] args) {
        the512thCallIsAnswered();
        newObjectHasNoStreamOpen();
        newObjectHasAnEmptyOut();
        openTakesTheLeastAndTheMost();
        openAgainLeavesNothing();
        openLeavesTheOthers();
        putTakesTheLowestBytes();
        putTakes1To8();
        putFillsTo2000();
        putToABrokenStream();
        pourFromEveryPlace();
        pourIsAtMostN();
        pourFillsTo2000();
        pourOfNothing();
        endOfAnEmptyStream();
        endOfAFullStream();
        endTellsWhatWaits();
        aboutAnEmptyStream();
        aboutAFullStream();
        aboutBytesThatAreNotDecided();
        aboutTheFirstSubpart();
        signsFrom0();
        placedFrom0();
        atEveryByte();
        writeOfNoSigns();
        writeUpTo6000();
        writeOfStreamsInEveryState();
        sizeOfNoneAndAll();
        outByteByByte();
        checkOfTheEmptyAndTheFull();
        checkOfTheLastByte();
        orderOfEmptyRows();
        orderOfARowThatGoesOn();
        orderOfFullRows();
        orderByTheWays();
        orderOfStreamsInEveryState();
        amongBothEnds();
        amongNone();
        due.close("PromiseBoundaryTest");
    }

    private static void facts(String name, Counted x, int stream, String facts) {
        StringBuilder text = new StringBuilder();
        for (int what = 0; what <= 8; what++) {
            text.append(what > 0 ? " " : "").append(x.about(stream, what));
        }
        due.is(name + ": all about " + stream, text.toString(), facts);
    }

    // "An object is used for at most 512 calls after it has been made"
    private static void the512thCallIsAnswered() {
        Counted x = new Counted();
        x.open(0, 0, 0);
        for (int came = 1; came <= Counted.MOST_CALLS - 2; came++) {
            due.is("put, byte " + came, x.put(0, 0x41, 1), came);
        }
        due.is("the last call", x.end(0), Counted.MOST_CALLS - 2);
        due.is("calls left", x.callsLeft(), 0);
    }

    // Promise 1: "No stream is open"
    private static void newObjectHasNoStreamOpen() {
        Counted x = new Counted();
        for (int stream = 0; stream < 4; stream++) {
            for (int what = 0; what <= 8; what++) {
                due.is("new: about", x.about(stream, what), STATE);
            }
            due.is("new: put", x.put(stream, 0x41, 1), STATE);
            due.is("new: pour", x.pour(stream, 0, 1), STATE);
            due.is("new: end", x.end(stream), STATE);
            due.is("new: write", x.write(stream, 0, false), STATE);
            due.is("new: size", x.size(stream, 0, 0, 0), STATE);
            due.is("new: order", x.order(stream, stream, 0), STATE);
            due.is("new: among", x.among(stream, 0, 0x10FFFF), STATE);
            due.is("new: sign", x.sign(stream, 0), NONE);
            due.is("new: placed", x.placed(stream, 0, 0), NONE);
            due.is("new: at", x.at(stream, 0), NONE);
        }
    }

    // Promise 1: "THE OUT is empty"
    private static void newObjectHasAnEmptyOut() {
        Counted x = new Counted();
        due.is("new: out(0)", x.out(0), NONE);
        due.is("new: out(5999)", x.out(5999), NONE);
        for (int form = 0; form < 6; form++) {
            due.is("new: check(" + form + ")", x.check(form), RIGHT);
        }
        x.open(0, 0, 0);
        due.is("new: pour of THE OUT", x.pour(0, 0, HIGH), 0);
        due.is("new: pour from 1", x.pour(0, 1, 0), NONE);
        due.is("new: nothing came", x.about(0, 1), 0);
    }

    // Promise 2: "there is no such stream, form 0 .. 6, policy 0 .. 2"
    private static void openTakesTheLeastAndTheMost() {
        for (int stream : new int[] {0, 3}) {
            for (int form : new int[] {0, 6}) {
                for (int policy : new int[] {0, 2}) {
                    Counted x = new Counted();
                    due.is("open", x.open(stream, form, policy), true);
                    facts("open", x, stream, form + " 0 0 0 0 0 -1 0 -1");
                }
            }
        }
    }

    // Promise 2: "open from now on, with no bytes (also one that was)"
    private static void openAgainLeavesNothing() {
        openedAgain("empty", x -> { });
        openedAgain("with signs", x -> Rows.put(x, 1, "41 42"));
        openedAgain("with bytes that wait", x -> Rows.put(x, 1, "41 F0 90 80"));
        openedAgain("with SUBPARTS", x -> Rows.put(x, 1, "FF 41 FF"));
        openedAgain("full", x -> Rows.fill(x, 1, 0x41, 2000));
        openedAgain("ended", x -> x.end(1));
        openedAgain("found", x -> {
            x.open(1, 6, 0);
            Rows.put(x, 1, "FE FF 00 41");
        });
        openedAgain("not found yet", x -> {
            x.open(1, 6, 0);
            Rows.put(x, 1, "FF FE 00");
        });
        openedAgain("broken", x -> {
            x.open(1, 0, 2);
            Rows.put(x, 1, "41 FF");
        });
    }

    private static void openedAgain(String before, State.Run run) {
        Counted x = new Counted();
        x.open(1, 0, 0);
        run.on(x);
        due.is(before + ", open again", x.open(1, 6, 2), true);
        facts(before + ", open again", x, 1, "6 0 0 0 0 0 -1 0 -1");
        due.is(before + ": no sign", x.sign(1, 0), NONE);
        due.is(before + ": no place", x.placed(1, 0, 0), NONE);
        due.is(before + ": no sign at 0", x.at(1, 0), NONE);
        due.is(before + ": no size", x.size(1, 0, 0, 1), NONE);
        due.is(before + ": takes bytes", x.put(1, 0x41FF42, 3), 1);
        facts(before + ", then", x, 1, "0 3 1 1 0 0 1 0 1");
        due.is(before + ": can be ended", x.end(1), 1);
    }

    // Promise 2: what is opened again is one stream, not THE OUT and not the others
    private static void openLeavesTheOthers() {
        Counted x = new Counted();
        x.open(0, 0, 0);
        Rows.put(x, 0, "41 FF C3");
        x.open(1, 0, 0);
        Rows.put(x, 1, "42");
        x.write(0, 0, false);
        x.open(1, 3, 1);
        facts("another", x, 0, "0 3 2 1 1 0 -1 0 1");
        due.is("THE OUT", Rows.out(x, 10), "41 EF BF BD");
        due.is("not opened", x.about(2, 0), STATE);
        due.is("what waits goes on", x.put(0, 0xA9, 1), 3);
    }

    // Promise 3: "The n lowest bytes of w (1 .. 8), the highest of them first"
    private static void putTakesTheLowestBytes() {
        long w = 0x4142434445464748L;
        String[] want = {
            "48", "47 48", "46 47 48", "45 46 47 48", "44 45 46 47 48", "43 44 45 46 47 48",
            "42 43 44 45 46 47 48", "41 42 43 44 45 46 47 48",
        };
        for (int n = 1; n <= 8; n++) {
            Counted x = new Counted();
            x.open(0, 0, 0);
            due.is("put of " + n, x.put(0, w, n), n);
            due.is("put of " + n + ": signs", Rows.signs(x, 0), want[n - 1]);
        }
        lowest(-1L, 1, "FFFD");
        lowest(Long.MIN_VALUE, 8, "FFFD 0 0 0 0 0 0 0");
        lowest(Long.MAX_VALUE, 8, "7F FFFD FFFD FFFD FFFD FFFD FFFD FFFD");
        lowest(0xFFFFFFFFFFFFFF41L, 1, "41");
        lowest(0x4100000000L, 5, "41 0 0 0 0");
        lowest(0x4180000042L, 4, "FFFD 0 0 42");
        lowest(0L, 8, "0 0 0 0 0 0 0 0");
    }

    private static void lowest(long w, int n, String signs) {
        Counted x = new Counted();
        x.open(0, 0, 0);
        x.put(0, w, n);
        due.is("put of " + n + " of " + Long.toHexString(w), Rows.signs(x, 0), signs);
        due.is("bytes that came", x.about(0, 1), n);
    }

    // Promise 3: "(1 .. 8)"
    private static void putTakes1To8() {
        Counted x = new Counted();
        x.open(0, 0, 0);
        due.is("put of 0", x.put(0, 0x41, 0), NONE);
        due.is("put of 1", x.put(0, 0x41, 1), 1);
        due.is("put of 8", x.put(0, 0x4141414141414141L, 8), 9);
        due.is("put of 9", x.put(0, 0x41, 9), NONE);
        facts("put", x, 0, "0 9 9 0 0 0 -1 0 -1");
    }

    // Promise 3: "ROOM: it would have had more than 2000 bytes"
    private static void putFillsTo2000() {
        for (int n = 1; n <= 8; n++) {
            Counted x = new Counted();
            x.open(0, 0, 0);
            Rows.fill(x, 0, 0x41, 2000 - n);
            if (n < 8) {
                due.is("put of " + (n + 1) + " to 2001", x.put(0, -1L, n + 1), ROOM);
                due.is("put of 8 above 2000", x.put(0, -1L, 8), ROOM);
            }
            facts("before 2000", x, 0, "0 " + (2000 - n) + " " + (2000 - n) + " 0 0 0 -1 0 -1");
            due.is("put of " + n + " to 2000", x.put(0, 0x4242424242424242L, n), 2000);
            due.is("put above 2000", x.put(0, 0x41, 1), ROOM);
            facts("2000", x, 0, "0 2000 2000 0 0 0 -1 0 -1");
            due.is("the last sign", x.sign(0, 1999), 0x42);
        }
    }

    // Promise 3: "(One that is BROKEN takes them, and has no more signs.)"
    private static void putToABrokenStream() {
        Counted x = new Counted();
        x.open(0, 0, 2);
        due.is("the break", x.put(0, 0x41FF42, 3), 1);
        due.is("more", x.put(0, 0x4344, 2), 1);
        facts("broken", x, 0, "0 5 1 1 0 0 1 0 1");
        x.open(0, 0, 2);
        x.put(0, 0xFF, 1);
        Rows.fill(x, 0, 0x41, 1999);
        facts("broken and full", x, 0, "0 2000 0 1 0 0 0 0 0");
        due.is("broken and full", x.put(0, 0x41, 1), ROOM);
        x.end(0);
        facts("broken, full, ended", x, 0, "0 2000 0 1 0 1 0 0 0");
    }

    private static Counted withOut(String row) {
        Counted x = new Counted();
        x.open(0, 0, 0);
        Rows.put(x, 0, row);
        x.write(0, 0, false);
        x.open(1, 0, 0);
        return x;
    }

    // Promise 4: "Byte i of THE OUT and all behind it", "i is not 0 .. how many THE OUT has"
    private static void pourFromEveryPlace() {
        String[] want = {"41 42 43", "42 43", "43", ""};
        for (int i = 0; i <= 3; i++) {
            Counted x = withOut("41 42 43");
            due.is("pour from " + i, x.pour(1, i, HIGH), 3 - i);
            due.is("pour from " + i + ": signs", Rows.signs(x, 1), want[i]);
            due.is("THE OUT stays", Rows.out(x, 10), "41 42 43");
        }
        Counted x = withOut("41 42 43");
        due.is("pour from 4", x.pour(1, 4, 1), NONE);
        due.is("pour from -1", x.pour(1, -1, 1), NONE);
    }

    // Promise 4: "but n at most"; i and n together are more than an int holds
    private static void pourIsAtMostN() {
        Counted x = withOut("41 42 43");
        due.is("pour of 0", x.pour(1, 0, 0), 0);
        due.is("pour of 1", x.pour(1, 0, 1), 1);
        due.is("pour of 2", x.pour(1, 0, 2), 2);
        due.is("pour of 3", x.pour(1, 0, 3), 3);
        due.is("pour of 4", x.pour(1, 0, 4), 3);
        due.is("pour of the most", x.pour(1, 1, HIGH), 2);
        due.is("pour of the most from the end", x.pour(1, 3, HIGH), 0);
        due.is("pour of -1", x.pour(1, 0, -1), NONE);
        due.is("signs", Rows.signs(x, 1), "41 41 42 41 42 43 41 42 43 42 43");
    }

    // Promise 4: "ROOM", which counts the bytes that would come, not n
    private static void pourFillsTo2000() {
        Counted x = new Counted();
        x.open(0, 0, 0);
        Rows.fill(x, 0, 0x41, 2000);
        x.write(0, 0, false);
        x.open(1, 0, 0);
        due.is("pour of 2000", x.pour(1, 0, 2000), 2000);
        due.is("pour into the full", x.pour(1, 1999, 1), ROOM);
        x.open(1, 0, 0);
        due.is("pour of all", x.pour(1, 0, HIGH), 2000);
        facts("full", x, 1, "0 2000 2000 0 0 0 -1 0 -1");
        x.open(1, 0, 0);
        x.put(1, 0x42, 1);
        due.is("pour of 2000 to 2001", x.pour(1, 0, HIGH), ROOM);
        facts("refused", x, 1, "0 1 1 0 0 0 -1 0 -1");
        due.is("pour of 1999 to 2000", x.pour(1, 1, HIGH), 1999);
        facts("full", x, 1, "0 2000 2000 0 0 0 -1 0 -1");
        due.is("1 above", x.pour(1, 0, 1), ROOM);
        x.open(1, 0, 2);
        x.put(1, 0xFF, 1);
        due.is("pour into a broken one", x.pour(1, 0, 1999), 1999);
        facts("broken", x, 1, "0 2000 0 1 0 0 0 0 0");
        due.is("above, into a broken one", x.pour(1, 0, 1), ROOM);
    }

    // Promise 4: no byte comes, also where there is no room for one
    private static void pourOfNothing() {
        Counted x = withOut("41");
        Rows.fill(x, 1, 0x42, 2000);
        due.is("n is 0", x.pour(1, 0, 0), 0);
        due.is("from the end", x.pour(1, 1, HIGH), 0);
        facts("full", x, 1, "0 2000 2000 0 0 0 -1 0 -1");
        x.open(1, 6, 0);
        due.is("not found by no bytes", x.pour(1, 1, 5), 0);
        facts("empty", x, 1, "6 0 0 0 0 0 -1 0 -1");
    }

    // Promise 5: "A stream is ENDED: how many signs it has"
    private static void endOfAnEmptyStream() {
        for (int form = 0; form <= 6; form++) {
            for (int policy = 0; policy <= 2; policy++) {
                Counted x = new Counted();
                x.open(0, form, policy);
                due.is("end of nothing", x.end(0), 0);
                facts("ended", x, 0, form % 6 + " 0 0 0 0 1 -1 0 -1");
                due.is("end again", x.end(0), STATE);
                facts("ended", x, 0, form % 6 + " 0 0 0 0 1 -1 0 -1");
            }
        }
    }

    // Promise 5, at 2000 bytes
    private static void endOfAFullStream() {
        Counted x = new Counted();
        x.open(0, 0, 0);
        Rows.fill(x, 0, 0xFF, 1992);
        due.is("the last bytes wait", x.put(0, 0xFFFFFFFFFFF09080L, 8), 1997);
        facts("full", x, 0, "0 2000 1997 1997 3 0 -1 0 0");
        due.is("end", x.end(0), 1998);
        facts("ended", x, 0, "0 2000 1998 1998 0 1 -1 0 0");
        due.is("last", x.placed(0, 1997, 0), 1997);
        due.is("last", x.placed(0, 1997, 1), 3);
    }

    // Promise 5: "a stream that is ENDED decides all", by each policy
    private static void endTellsWhatWaits() {
        String[] signs = {"41 FFFD", "41", "41"};
        int[] broken = {NONE, NONE, 1};
        for (int policy = 0; policy <= 2; policy++) {
            Counted x = new Counted();
            x.open(0, 0, policy);
            Rows.put(x, 0, "41 F4 8F BF");
            facts("waiting", x, 0, "0 4 1 0 3 0 -1 0 -1");
            x.end(0);
            due.is("ended: signs", Rows.signs(x, 0), signs[policy]);
            due.is("ended: SUBPARTS", x.about(0, 3), 1);
            due.is("ended: waiting", x.about(0, 4), 0);
            due.is("ended: broken", x.about(0, 6), broken[policy]);
            due.is("ended: first", x.about(0, 8), 1);
        }
    }

    // Promise 6, with no bytes
    private static void aboutAnEmptyStream() {
        Counted x = new Counted();
        for (int form = 0; form <= 6; form++) {
            x.open(0, form, 0);
            facts("empty", x, 0, form + " 0 0 0 0 0 -1 0 -1");
        }
    }

    // Promise 6, with 2000 bytes
    private static void aboutAFullStream() {
        Counted x = new Counted();
        x.open(0, 4, 1);
        Rows.fill(x, 0, 0xFF, 2000);
        facts("all SUBPARTS", x, 0, "4 2000 0 500 0 0 -1 0 0");
        x = new Counted();
        x.open(0, 6, 0);
        Rows.put(x, 0, "FF FE");
        Rows.fill(x, 0, 0x41, 1998);
        facts("marked", x, 0, "2 2000 999 0 0 0 -1 1 -1");
    }

    // Promise 6: "4 bytes that are not decided", the most that can wait in each form, and one more
    private static void aboutBytesThatAreNotDecided() {
        waiting(0, "41 F4 8F BF", 3);
        waiting(0, "41 F4 8F BF BF", 0);
        waiting(1, "00 41 DB FF DF", 3);
        waiting(1, "00 41 DB FF DF FF", 0);
        waiting(2, "41 00 FF DB FF", 3);
        waiting(2, "41 00 FF DB FF DF", 0);
        waiting(3, "00 00 00 41 FF FF FF", 3);
        waiting(3, "00 00 00 41 FF FF FF FF", 0);
        waiting(4, "41 00 00 00 FF FF FF", 3);
        waiting(4, "41 00 00 00 FF FF FF FF", 0);
        waiting(5, "41 ED AF BF ED BF", 5);
        waiting(5, "41 ED AF BF ED BF BF", 0);
        waiting(6, "FF FE 00", 3);
        waiting(6, "FF FE 00 00", 0);
        waiting(6, "EF BB BF F4 8F BF", 3);
    }

    private static void waiting(int form, String row, int count) {
        for (int policy = 0; policy <= 2; policy++) {
            Counted x = new Counted();
            x.open(0, form, policy);
            Rows.put(x, 0, row);
            due.is("form " + form + ", " + row + ": not decided", x.about(0, 4), count);
            x.end(0);
            due.is("form " + form + ", " + row + ": not decided, ended", x.about(0, 4), 0);
        }
    }

    // Promise 6: "6 the PLACE of the SUBPART that broke it (NONE)", "8 the PLACE of its first SUBPART (NONE)"
    private static void aboutTheFirstSubpart() {
        int[] broken = {NONE, NONE, 0};
        for (int policy = 0; policy <= 2; policy++) {
            Counted x = new Counted();
            x.open(0, 0, policy);
            due.is("broken before", x.about(0, 6), NONE);
            due.is("first before", x.about(0, 8), NONE);
            Rows.put(x, 0, "FF FF");
            due.is("broken at 0", x.about(0, 6), broken[policy]);
            due.is("first at 0", x.about(0, 8), 0);
        }
        Counted x = new Counted();
        x.open(0, 0, 2);
        Rows.fill(x, 0, 0x41, 1999);
        x.put(0, 0xFF, 1);
        due.is("broken at 1999", x.about(0, 6), 1999);
        due.is("first at 1999", x.about(0, 8), 1999);
    }

    // Promise 7: "Sign i of a stream; NONE"
    private static void signsFrom0() {
        Counted x = new Counted();
        x.open(0, 0, 0);
        due.is("of no signs", x.sign(0, 0), NONE);
        Rows.put(x, 0, "41 42 C3");
        due.is("before the first", x.sign(0, -1), NONE);
        due.is("the first", x.sign(0, 0), 0x41);
        due.is("the last", x.sign(0, 1), 0x42);
        due.is("behind the last, not decided", x.sign(0, 2), NONE);
        Rows.fill(x, 0, 0x43, 1997);
        due.is("the last of 2000", x.sign(0, 1999), 0x43);
        due.is("2000", x.sign(0, 2000), NONE);
        due.is("least", x.sign(0, LOW), NONE);
        due.is("most", x.sign(0, HIGH), NONE);
        for (int stream : new int[] {LOW, -1, 1, 4, HIGH}) {
            due.is("no such stream, or not open", x.sign(stream, 0), NONE);
        }
    }

    // Promise 8: "its PLACE (what = 0), how many bytes it was (1), whether it became FFFD (2). NONE"
    private static void placedFrom0() {
        Counted x = new Counted();
        x.open(0, 0, 0);
        for (int what = 0; what <= 2; what++) {
            due.is("of no signs", x.placed(0, 0, what), NONE);
        }
        Rows.put(x, 0, "FF EF BF BD");
        int[][] want = {{0, 1, 1}, {1, 3, 0}};
        for (int what = 0; what <= 2; what++) {
            due.is("before the first", x.placed(0, -1, what), NONE);
            due.is("the first", x.placed(0, 0, what), want[0][what]);
            due.is("the last", x.placed(0, 1, what), want[1][what]);
            due.is("behind the last", x.placed(0, 2, what), NONE);
            due.is("least", x.placed(0, LOW, what), NONE);
            due.is("most", x.placed(0, HIGH, what), NONE);
            for (int stream : new int[] {LOW, -1, 1, 4, HIGH}) {
                due.is("no such stream, or not open", x.placed(stream, 0, what), NONE);
            }
        }
        for (int what : new int[] {LOW, -1, 3, HIGH}) {
            due.is("what", x.placed(0, 0, what), NONE);
        }
        x.open(0, 0, 0);
        Rows.fill(x, 0, 0xFF, 2000);
        due.is("the last of 2000", x.placed(0, 1999, 0), 1999);
        due.is("behind 2000", x.placed(0, 2000, 0), NONE);
    }

    // Promise 9: "the sign of a stream to which the byte at a place belongs; NONE: there is none"
    private static void atEveryByte() {
        at(0, "41 C3 A9 F0 9F 98 80 FF 42", "-1 0 1 1 2 2 2 2 3 4 -1");
        at(0, "41 F0 9F 98", "-1 0 -1 -1 -1 -1");
        at(0, "E2 82 41", "-1 0 0 1 -1");
        at(1, "E2 82 41", "-1 -1 -1 0 -1");
        at(1, "41 FF 42 FF", "-1 0 -1 1 -1 -1");
        at(2, "41 FF 42", "-1 0 -1 -1 -1");
        at(0, "", "-1 -1");
        Counted x = new Counted();
        x.open(0, 6, 0);
        Rows.put(x, 0, "FF FE 41 00 00");
        due.is("the mark", x.at(0, 0), NONE);
        due.is("the mark's last", x.at(0, 1), NONE);
        due.is("behind the mark", x.at(0, 2), 0);
        due.is("its last", x.at(0, 3), 0);
        due.is("not decided", x.at(0, 4), NONE);
        x.end(0);
        due.is("decided by the end", x.at(0, 4), 1);
        due.is("behind all", x.at(0, 5), NONE);
        x.open(0, 0, 0);
        Rows.fill(x, 0, 0x41, 2000);
        due.is("1999", x.at(0, 1999), 1999);
        due.is("2000", x.at(0, 2000), NONE);
        due.is("least", x.at(0, LOW), NONE);
        due.is("most", x.at(0, HIGH), NONE);
        for (int stream : new int[] {LOW, -1, 1, 4, HIGH}) {
            due.is("no such stream, or not open", x.at(stream, 0), NONE);
        }
    }

    /** The signs at places -1 .. how many bytes came. */
    private static void at(int policy, String row, String signs) {
        Counted x = new Counted();
        x.open(0, 0, policy);
        Rows.put(x, 0, row);
        StringBuilder text = new StringBuilder();
        for (int place = -1; place <= x.about(0, 1); place++) {
            text.append(place >= 0 ? " " : "").append(x.at(0, place));
        }
        due.is("policy " + policy + ", " + row + ": at", text.toString(), signs);
    }

    // Promise 10: "all signs of a stream in a form 0 .. 5, with FEFF before them (marked) or not"
    private static void writeOfNoSigns() {
        String[] marks = {"EF BB BF", "FE FF", "FF FE", "00 00 FE FF", "FF FE 00 00", "EF BB BF"};
        for (int form = 0; form <= 5; form++) {
            Counted x = withOut("41 42 43 44 45");
            due.is("marked", x.write(1, form, true), Rows.numbers(marks[form]).length);
            due.is("just the mark, form " + form, Rows.out(x, 10), marks[form]);
            due.is("not marked", x.write(1, form, false), 0);
            due.is("empty", Rows.out(x, 10), "");
            due.is("empty is right", x.check(form), RIGHT);
        }
    }

    // Promise 10: "ROOM: above 6000"
    private static void writeUpTo6000() {
        written(0xFF, 2000, 0, false, 6000);
        written(0xFF, 2000, 0, true, ROOM);
        written(0xFF, 1999, 0, true, 6000);
        written(0xFF, 2000, 5, false, 6000);
        written(0xFF, 2000, 5, true, ROOM);
        written(0xFF, 1999, 5, true, 6000);
        written(0x41, 2000, 1, true, 4002);
        written(0x41, 2000, 2, true, 4002);
        written(0x41, 1500, 3, false, 6000);
        written(0x41, 1501, 3, false, ROOM);
        written(0x41, 1499, 3, true, 6000);
        written(0x41, 1500, 3, true, ROOM);
        written(0x41, 1500, 4, false, 6000);
        written(0x41, 1501, 4, false, ROOM);
        written(0x41, 1499, 4, true, 6000);
        written(0x41, 1500, 4, true, ROOM);
        Counted x = new Counted();
        x.open(0, 0, 0);
        x.put(0, 0x41, 1);
        Rows.fill(x, 0, 0xFF, 1999);
        due.is("5998", x.write(0, 0, false), 5998);
        due.is("6001", x.write(0, 0, true), ROOM);
        due.is("5998 stay", x.out(5997), 0xBD);
        due.is("5998 stay", x.out(5998), NONE);
    }

    /** What write answers for a byte that came again and again, when THE OUT had one byte before. */
    private static void written(int value, int count, int form, boolean marked, int answer) {
        Counted x = withOut("58");
        x.open(2, 0, 0);
        Rows.fill(x, 2, value, count);
        String name = count + " times " + Integer.toHexString(value) + " in form " + form + (marked ? ", marked" : "");
        due.is(name, x.write(2, form, marked), answer);
        int bytes = answer == ROOM ? 1 : answer;
        due.is(name + ": the last byte is there", x.out(bytes - 1) >= 0, true);
        due.is(name + ": none behind it", x.out(bytes), NONE);
        due.is(name + ": right", x.check(answer == ROOM ? 0 : form), RIGHT);
        due.is(name + ": pour from its end", x.pour(0, bytes, 1), 0);
    }

    // Promise 10: "STATE: it is not open": one that is ended, broken or not found yet is written
    private static void writeOfStreamsInEveryState() {
        Counted x = withOut("41");
        due.is("not open", x.write(3, 0, false), STATE);
        x.end(0);
        x.write(1, 0, false);
        due.is("ended", x.write(0, 0, false), 1);
        due.is("ended", Rows.out(x, 5), "41");
        x.open(1, 0, 2);
        Rows.put(x, 1, "42 FF 43");
        due.is("broken", x.write(1, 1, false), 2);
        due.is("broken", Rows.out(x, 5), "00 42");
        x.open(1, 6, 0);
        Rows.put(x, 1, "00 00");
        due.is("not found yet", x.write(1, 0, false), 0);
        due.is("not found yet", Rows.out(x, 5), "");
        x.open(1, 6, 0);
        Rows.put(x, 1, "FE FF 00 44 00");
        due.is("its mark is no sign", x.write(1, 0, false), 1);
        due.is("its mark is no sign", Rows.out(x, 5), "44");
    }

    // Promise 11: "signs from .. to - 1", "NONE: it is not 0 <= from <= to <= how many"
    private static void sizeOfNoneAndAll() {
        Counted x = new Counted();
        x.open(0, 0, 0);
        due.is("of no signs", x.size(0, 0, 0, 0), 0);
        due.is("of no signs, to 1", x.size(0, 0, 0, 1), NONE);
        due.is("of no signs, from 1", x.size(0, 0, 1, 1), NONE);
        Rows.put(x, 0, "41 C3 A9 E2 82 AC F0 9F 98 80 F0");
        String[] sizes = {"1 2 3 4", "2 2 2 4", "2 2 2 4", "4 4 4 4", "4 4 4 4", "1 2 3 6"};
        for (int form = 0; form <= 5; form++) {
            int[] want = Rows.numbers(sizes[form]);
            for (int i = 0; i < 4; i++) {
                due.is("form " + form + ": sign " + i, x.size(0, form, i, i + 1), want[i]);
                due.is("form " + form + ": none at " + i, x.size(0, form, i, i), 0);
            }
            due.is("form " + form + ": all", x.size(0, form, 0, 4), want[0] + want[1] + want[2] + want[3]);
            due.is("form " + form + ": none behind all", x.size(0, form, 4, 4), 0);
        }
        due.is("from -1", x.size(0, 0, -1, 4), NONE);
        due.is("from above to", x.size(0, 0, 1, 0), NONE);
        due.is("to above all", x.size(0, 0, 0, 5), NONE);
        due.is("from above all", x.size(0, 0, 5, 5), NONE);
        due.is("from -1 to -1", x.size(0, 0, -1, -1), NONE);
        due.is("least", x.size(0, 0, LOW, 0), NONE);
        due.is("most", x.size(0, 0, 0, HIGH), NONE);
        due.is("least and most", x.size(0, 0, LOW, HIGH), NONE);
        due.is("most and least", x.size(0, 0, HIGH, LOW), NONE);
        x.open(0, 0, 0);
        Rows.fill(x, 0, 0x41, 2000);
        due.is("2000 signs, more than THE OUT has room for", x.size(0, 3, 0, 2000), 8000);
        due.is("2001", x.size(0, 3, 0, 2001), NONE);
        x.end(0);
        due.is("of an ended one", x.size(0, 0, 1999, 2000), 1);
    }

    // Promise 12: "Byte i of THE OUT, 0 .. 255; NONE"
    private static void outByteByByte() {
        Counted x = new Counted();
        due.is("of nothing", x.out(0), NONE);
        x.open(0, 0, 0);
        Rows.put(x, 0, "00 7F C2 80 C3 BF");
        x.write(0, 4, false);
        due.is("least and most", Rows.out(x, 20), "00 00 00 00 7F 00 00 00 80 00 00 00 FF 00 00 00");
        due.is("before the first", x.out(-1), NONE);
        due.is("the last", x.out(15), 0);
        due.is("behind the last", x.out(16), NONE);
        due.is("least", x.out(LOW), NONE);
        due.is("most", x.out(HIGH), NONE);
        x.write(0, 0, false);
        due.is("shorter now", Rows.out(x, 20), "00 7F C2 80 C3 BF");
        due.is("what was behind it is gone", x.out(6), NONE);
        due.is("what was behind it is gone", x.out(15), NONE);
    }

    // Promise 13: "NONE - 1, if it is; else the place of its first SUBPART. NONE: no such form"
    private static void checkOfTheEmptyAndTheFull() {
        Counted x = new Counted();
        for (int form : new int[] {LOW, -1, 6, 7, HIGH}) {
            due.is("no such form", x.check(form), NONE);
        }
        for (int form = 0; form <= 5; form++) {
            due.is("the empty one, form " + form, x.check(form), RIGHT);
        }
        x.open(0, 0, 0);
        Rows.fill(x, 0, 0xFF, 2000);
        x.write(0, 0, false);
        due.is("6000 bytes", x.check(0), RIGHT);
        due.is("6000 bytes, halved", x.check(5), RIGHT);
        due.is("6000 bytes in pairs", x.check(1), RIGHT);
        due.is("6000 bytes in fours", x.check(3), 0);
        x.open(0, 0, 0);
        Rows.fill(x, 0, 0x41, 1500);
        x.write(0, 3, false);
        due.is("6000 bytes in fours", x.check(3), RIGHT);
        due.is("6000 bytes in fours, low first", x.check(4), 0);
        due.is("6000 bytes, each below 80", x.check(0), RIGHT);
    }

    // Promise 13: "the place of its first SUBPART", at the very end
    private static void checkOfTheLastByte() {
        Counted x = new Counted();
        x.open(0, 0, 0);
        Rows.fill(x, 0, 0x41, 1499);
        x.put(0, 0xF09F9880L, 4);
        x.write(0, 4, false);
        due.is("a SUBPART before the last byte", x.check(0), 5997);
        due.is("of four bytes", x.check(4), RIGHT);
        x = new Counted();
        x.open(0, 0, 0);
        Rows.fill(x, 0, 0x41, 1499);
        x.put(0, 0xC3BF, 2);
        x.write(0, 3, false);
        due.is("a SUBPART that is the last of 6000 bytes", x.check(0), 5999);
        due.is("a SUBPART that is the last of 6000 bytes, halved", x.check(5), 5999);
        x = new Counted();
        x.open(0, 0, 0);
        Rows.fill(x, 0, 0x41, 1999);
        x.write(0, 0, false);
        due.is("of 1999 in pairs", x.check(1), 1998);
        due.is("of 1999 in pairs, low first", x.check(2), 1998);
        due.is("of 1999 as bytes", x.check(0), RIGHT);
        x.put(0, 0x41, 1);
        x.write(0, 0, false);
        due.is("of 2000 in pairs", x.check(1), RIGHT);
        x.open(0, 1, 0);
        Rows.put(x, 0, "41 C3");
        x.write(0, 1, false);
        due.is("cut at the end", x.check(0), 1);
        due.is("cut at the end", x.check(5), 1);
        x.open(0, 2, 0);
        Rows.put(x, 0, "41 41 D8 00");
        x.write(0, 2, false);
        due.is("a first half at the end", x.check(1), 2);
        x.open(0, 0, 0);
        Rows.put(x, 0, "00 00 00 41 42");
        x.write(0, 0, false);
        due.is("one byte behind a four", x.check(3), 4);
    }

    private static void ordered(String one, String other, String answers) {
        Counted x = new Counted();
        Rows.signs(x, 0, one);
        Rows.signs(x, 3, other);
        String[] want = answers.split(" ");
        for (int way = 0; way <= 2; way++) {
            int answer = Integer.parseInt(want[way]);
            String name = "order of " + one + " and " + other + ", way " + way;
            due.is(name, x.order(0, 3, way), answer);
            due.is(name + ", turned", x.order(3, 0, way), answer == 0 ? 0 : 3 - answer);
            due.is(name + ", with itself", x.order(3, 3, way), 0);
        }
    }

    // Promise 14: "0 the same"
    private static void orderOfEmptyRows() {
        ordered("", "", "0 0 0");
        ordered("", "0", "1 1 1");
        ordered("0", "0", "0 0 0");
        ordered("10FFFF", "10FFFF", "0 0 0");
    }

    // Promise 14: "or the shorter row before the longer one that goes on"
    private static void orderOfARowThatGoesOn() {
        ordered("41", "41 0", "1 1 1");
        ordered("41 42", "41", "2 2 2");
        ordered("10FFFF", "10FFFF 0", "1 1 1");
        ordered("42", "41 43 44", "2 2 2");
        ordered("41 43", "42", "1 1 1");
    }

    // Promise 14, with 2000 signs in both
    private static void orderOfFullRows() {
        Counted x = new Counted();
        x.open(0, 0, 0);
        Rows.fill(x, 0, 0x41, 1999);
        x.write(0, 0, false);
        x.open(1, 0, 0);
        x.pour(1, 0, 1999);
        for (int way = 0; way <= 2; way++) {
            due.is("1999 the same", x.order(0, 1, way), 0);
        }
        x.put(0, 0x42, 1);
        for (int way = 0; way <= 2; way++) {
            due.is("2000 and 1999", x.order(0, 1, way), 2);
        }
        x.put(1, 0x43, 1);
        for (int way = 0; way <= 2; way++) {
            due.is("the last one differs", x.order(0, 1, way), 1);
        }
    }

    // Promise 14: "by the first sign that differs", "way 0 ... 1 ... 2", where numbers wrap into halves and bytes
    private static void orderByTheWays() {
        ordered("FFFF", "10000", "1 2 2");
        ordered("E000", "10000", "1 2 2");
        ordered("D7FF", "10000", "1 1 2");
        ordered("E000", "10FFFF", "1 2 1");
        ordered("FFFF", "10FFFF", "1 2 2");
        ordered("10000", "10FFFF", "1 1 1");
        ordered("103FF", "10400", "1 1 1");
        ordered("10001", "10100", "1 1 2");
        ordered("FF", "100", "1 1 2");
        ordered("100", "200", "1 1 1");
        ordered("0", "100", "1 1 1");
        ordered("0", "1", "1 1 1");
        ordered("1FF", "2FE", "1 1 2");
        ordered("FF00", "1", "2 2 1");
        ordered("FEFF", "FFFE", "1 1 2");
        ordered("103FF", "50000", "1 1 1");
        ordered("50000", "1FC00", "2 2 1");
        ordered("10FFFF", "103FF", "2 2 2");
        ordered("41 FFFF 0", "41 10000 10FFFF", "1 2 2");
        ordered("41 10FFFF", "42 0", "1 1 1");
    }

    // Promise 14: "STATE: one is not open": ended, broken and waiting ones have an order
    private static void orderOfStreamsInEveryState() {
        Counted x = new Counted();
        x.open(0, 0, 0);
        Rows.put(x, 0, "41 C3");
        x.open(1, 0, 2);
        Rows.put(x, 1, "41 FF 42");
        x.open(2, 6, 0);
        Rows.put(x, 2, "FE FF 00 41");
        x.end(2);
        for (int way = 0; way <= 2; way++) {
            due.is("waiting and broken", x.order(0, 1, way), 0);
            due.is("broken and ended", x.order(1, 2, way), 0);
            due.is("ended and waiting", x.order(2, 0, way), 0);
            due.is("not open", x.order(2, 3, way), STATE);
        }
        x.end(0);
        x.end(1);
        due.is("what waited was told at the end", x.order(0, 1, 0), 2);
        due.is("both ended", x.order(1, 2, 0), 0);
    }

    // Promise 15: "How many of a stream's signs are from .. to (numbers)"
    private static void amongBothEnds() {
        Counted x = new Counted();
        x.open(0, 0, 0);
        Rows.put(x, 0, "00 41 42 42 43 FF EF BF BD F4 8F BF BF C3");
        due.is("just one", x.among(0, 0x42, 0x42), 2);
        due.is("both ends", x.among(0, 0x41, 0x43), 4);
        due.is("the least", x.among(0, 0, 0), 1);
        due.is("from below 0", x.among(0, LOW, 0), 1);
        due.is("to -1", x.among(0, LOW, -1), 0);
        due.is("the most", x.among(0, 0x10FFFF, 0x10FFFF), 1);
        due.is("to above all", x.among(0, 0x10FFFF, HIGH), 1);
        due.is("from above all", x.among(0, 0x110000, HIGH), 0);
        due.is("replaced ones count", x.among(0, 0xFFFD, 0xFFFD), 2);
        due.is("all", x.among(0, LOW, HIGH), 8);
        x.end(0);
        due.is("all, ended", x.among(0, 0, 0x10FFFF), 9);
        x.open(0, 0, 0);
        Rows.fill(x, 0, 0x41, 2000);
        due.is("2000", x.among(0, 0x41, 0x41), 2000);
    }

    // Promise 15, where none is
    private static void amongNone() {
        Counted x = new Counted();
        x.open(0, 0, 1);
        due.is("of no signs", x.among(0, LOW, HIGH), 0);
        Rows.put(x, 0, "41 43 FF");
        due.is("between", x.among(0, 0x42, 0x42), 0);
        due.is("from above to", x.among(0, 0x43, 0x41), 0);
        due.is("from far above to", x.among(0, HIGH, LOW), 0);
        due.is("left out", x.among(0, 0xFFFD, 0xFFFD), 0);
    }
}
