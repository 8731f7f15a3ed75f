/**
 * Every call that a promise refuses, in scenes of small, full, ended and broken streams: the answer that
 * is due, and "what is refused changes nothing". Where a call is refused for more than one cause, the
 * cause that the promise names first is answered.
 */
public final class RefusedTest {
    private static final int NONE = -1, STATE = -2, ROOM = -3;
    private static final int LOW = Integer.MIN_VALUE, HIGH = Integer.MAX_VALUE;
    private static final int[] NO_STREAMS = {LOW, -1, 4, HIGH};
    private static final int[] NO_FORMS_TO_WRITE = {LOW, -1, 6, HIGH};
    private static final Due due = new Due();

    private interface Call {
        int on(Counted x);
    }

    /** A run of calls, and all that an object answers after it. */
    private static final class Scene {
        final String name;
        final State.Run run;
        private final State state;

        Scene(String name, State.Run run) {
            this.name = name;
            this.run = run;
            state = State.after(run);
        }

        void refuses(String call, Call refused, int answer) {
            Counted x = new Counted();
            run.on(x);
            due.is(name + ": " + call, refused.on(x), answer);
            String difference = state.difference(State.after(run.then(refused::on)));
            due.is(name + ": what " + call + " changed", difference, "");
        }
    }

    private static final Scene NEW = new Scene("a new object", x -> { });

    /** Stream 0 waits for bytes, 1 for its form, 2 is ended, 3 is not open; THE OUT has seven bytes. */
    private static final Scene USUAL = new Scene("a usual object", RefusedTest::usual);

    /** Stream 0 is broken, 1 is broken and ended, 2 has a mark and a rest, 3 is empty and ended. */
    private static final Scene BROKEN = new Scene("broken streams", RefusedTest::broken);

    /** Stream 0 has 2000 bytes, 1 has 1998 and a byte that waits, 2 has 1997 and is ended; THE OUT has 6000. */
    private static final Scene FULL = new Scene("a full object", RefusedTest::full);

    public static void main(String[] args) {
        openRefused();
        putRefusedNone();
        putRefusedState();
        putRefusedRoom();
        pourRefusedNone();
        pourRefusedState();
        pourRefusedRoom();
        endRefused();
        aboutRefused();
        signRefused();
        placedRefused();
        atRefused();
        writeRefusedNone();
        writeRefusedState();
        writeRefusedRoom();
        sizeRefused();
        outRefused();
        checkRefused();
        orderRefused();
        amongRefused();
        askingChangesNothing();
        due.close("RefusedTest");
    }

    private static void usual(Counted x) {
        x.open(0, 0, 0);
        Rows.put(x, 0, "41 FF C3 A9 42");
        x.write(0, 0, false);
        Rows.put(x, 0, "F0 9F 98");
        x.open(1, 6, 2);
        Rows.put(x, 1, "FF FE");
        x.open(2, 1, 1);
        Rows.put(x, 2, "00 41 DC 00 D8 3D DE 00 D8");
        x.end(2);
    }

    private static void broken(Counted x) {
        x.open(0, 0, 2);
        Rows.put(x, 0, "41 42 FF 43 C3");
        x.write(0, 5, true);
        x.open(1, 5, 2);
        Rows.put(x, 1, "41 ED A0 80 ED");
        x.end(1);
        x.open(2, 6, 1);
        Rows.put(x, 2, "00 00 FE FF 00 11 00 00 00 00 00 41 00");
        x.open(3, 6, 0);
        x.end(3);
    }

    private static void full(Counted x) {
        x.open(0, 0, 0);
        Rows.fill(x, 0, 0xFF, 2000);
        x.write(0, 0, false);
        x.open(1, 6, 1);
        x.pour(1, 0, 1996);
        x.put(1, 0x41C3, 2);
        x.open(2, 1, 0);
        x.pour(2, 3, 1997);
        x.end(2);
    }

    // Promise 2: "False: there is no such stream, form 0 .. 6, policy 0 .. 2"
    private static void openRefused() {
        for (Scene scene : new Scene[] {NEW, USUAL, BROKEN}) {
            for (int wrong : NO_STREAMS) {
                scene.refuses("open of stream " + wrong, x -> x.open(wrong, 0, 0) ? 1 : 0, 0);
            }
            for (int stream = 0; stream < 4; stream++) {
                int opened = stream;
                for (int wrong : new int[] {LOW, -1, 7, HIGH}) {
                    scene.refuses("open in form " + wrong, x -> x.open(opened, wrong, 1) ? 1 : 0, 0);
                }
                for (int wrong : new int[] {LOW, -1, 3, HIGH}) {
                    scene.refuses("open by policy " + wrong, x -> x.open(opened, 3, wrong) ? 1 : 0, 0);
                }
            }
        }
        FULL.refuses("open in form 7", x -> x.open(0, 7, 1) ? 1 : 0, 0);
        FULL.refuses("open by policy 3", x -> x.open(1, 0, 3) ? 1 : 0, 0);
    }

    // Promise 3: "NONE (stream, n)"
    private static void putRefusedNone() {
        for (Scene scene : new Scene[] {NEW, USUAL, BROKEN}) {
            for (int wrong : NO_STREAMS) {
                scene.refuses("put to stream " + wrong, x -> x.put(wrong, 0x43, 1), NONE);
            }
            for (int wrong : new int[] {LOW, -1, 0, 9, HIGH}) {
                for (int stream = 0; stream < 4; stream++) {
                    int taker = stream;
                    scene.refuses("put of " + wrong + " to " + taker, x -> x.put(taker, 0x43, wrong), NONE);
                }
            }
        }
        FULL.refuses("put of 9, before ROOM", x -> x.put(0, 0x43, 9), NONE);
        FULL.refuses("put of 0, before STATE", x -> x.put(2, 0x43, 0), NONE);
    }

    // Promise 3: "STATE: it is not open, or ended"
    private static void putRefusedState() {
        for (int stream = 0; stream < 4; stream++) {
            int taker = stream;
            NEW.refuses("put to " + taker, x -> x.put(taker, 0x43, 1), STATE);
        }
        USUAL.refuses("put to an ended one", x -> x.put(2, 0x0043, 2), STATE);
        USUAL.refuses("put to one that is not open", x -> x.put(3, 0x43, 1), STATE);
        BROKEN.refuses("put to a broken and ended one", x -> x.put(1, 0x43, 1), STATE);
        BROKEN.refuses("put to an empty and ended one", x -> x.put(3, 0x43, 1), STATE);
        FULL.refuses("put to an ended one, before ROOM", x -> x.put(2, -1L, 8), STATE);
    }

    // Promise 3: "ROOM: it would have had more than 2000 bytes"
    private static void putRefusedRoom() {
        FULL.refuses("put of 1 to 2001", x -> x.put(0, 0x41, 1), ROOM);
        FULL.refuses("put of 8 to 2008", x -> x.put(0, 0x4142434445464748L, 8), ROOM);
        FULL.refuses("put of 3 to 2001", x -> x.put(1, 0xA94142, 3), ROOM);
        FULL.refuses("put of 8 to 2006", x -> x.put(1, 0xA941424344454647L, 8), ROOM);
    }

    // Promise 4: "NONE (stream; i is not 0 .. how many THE OUT has; n below 0)"
    private static void pourRefusedNone() {
        for (Scene scene : new Scene[] {NEW, USUAL, BROKEN}) {
            for (int wrong : NO_STREAMS) {
                scene.refuses("pour to stream " + wrong, x -> x.pour(wrong, 0, 1), NONE);
            }
            for (int stream = 0; stream < 4; stream++) {
                int taker = stream;
                for (int wrong : new int[] {LOW, -1, 9999, HIGH}) {
                    scene.refuses("pour from " + wrong + " to " + taker, x -> x.pour(taker, wrong, 1), NONE);
                }
                for (int wrong : new int[] {LOW, -1}) {
                    scene.refuses("pour of " + wrong + " to " + taker, x -> x.pour(taker, 0, wrong), NONE);
                }
            }
        }
        NEW.refuses("pour from 1, of nothing", x -> x.pour(0, 1, 0), NONE);
        USUAL.refuses("pour from behind THE OUT", x -> x.pour(0, 8, 0), NONE);
        FULL.refuses("pour from 6001, before ROOM", x -> x.pour(0, 6001, 1), NONE);
        FULL.refuses("pour of -1, before ROOM", x -> x.pour(0, 0, -1), NONE);
        FULL.refuses("pour from 6001, before STATE", x -> x.pour(2, 6001, 0), NONE);
    }

    // Promise 4: "STATE"
    private static void pourRefusedState() {
        for (int stream = 0; stream < 4; stream++) {
            int taker = stream;
            NEW.refuses("pour to " + taker, x -> x.pour(taker, 0, 1), STATE);
        }
        USUAL.refuses("pour to an ended one", x -> x.pour(2, 0, 2), STATE);
        USUAL.refuses("pour of nothing to an ended one", x -> x.pour(2, 0, 0), STATE);
        USUAL.refuses("pour to one that is not open", x -> x.pour(3, 0, 2), STATE);
        BROKEN.refuses("pour to a broken and ended one", x -> x.pour(1, 0, 2), STATE);
        FULL.refuses("pour to an ended one, before ROOM", x -> x.pour(2, 0, 6000), STATE);
    }

    // Promise 4: "ROOM"
    private static void pourRefusedRoom() {
        FULL.refuses("pour of 1 to 2001", x -> x.pour(0, 0, 1), ROOM);
        FULL.refuses("pour of the last to 2001", x -> x.pour(0, 5999, HIGH), ROOM);
        FULL.refuses("pour of 3 to 2001", x -> x.pour(1, 0, 3), ROOM);
        FULL.refuses("pour of the last 3 to 2001", x -> x.pour(1, 5997, HIGH), ROOM);
        FULL.refuses("pour of 6000", x -> x.pour(1, 0, HIGH), ROOM);
    }

    // Promise 5: "NONE; STATE: it is not open, or ended"
    private static void endRefused() {
        for (Scene scene : new Scene[] {NEW, USUAL, BROKEN}) {
            for (int wrong : NO_STREAMS) {
                scene.refuses("end of stream " + wrong, x -> x.end(wrong), NONE);
            }
        }
        for (int stream = 0; stream < 4; stream++) {
            int ending = stream;
            NEW.refuses("end of " + ending, x -> x.end(ending), STATE);
        }
        USUAL.refuses("end of an ended one", x -> x.end(2), STATE);
        USUAL.refuses("end of one that is not open", x -> x.end(3), STATE);
        BROKEN.refuses("end of a broken and ended one", x -> x.end(1), STATE);
        BROKEN.refuses("end of an empty and ended one", x -> x.end(3), STATE);
        FULL.refuses("end of an ended one", x -> x.end(2), STATE);
    }

    // Promise 6: "NONE (stream, what); STATE: it is not open"
    private static void aboutRefused() {
        for (int wrong : NO_STREAMS) {
            USUAL.refuses("about stream " + wrong, x -> x.about(wrong, 0), NONE);
        }
        for (int wrong : new int[] {LOW, -1, 9, HIGH}) {
            for (int stream = 0; stream < 4; stream++) {
                int asked = stream;
                USUAL.refuses("about " + asked + ": " + wrong, x -> x.about(asked, wrong), NONE);
            }
        }
        for (int what = 0; what <= 8; what++) {
            int asked = what;
            USUAL.refuses("about one that is not open: " + what, x -> x.about(3, asked), STATE);
        }
    }

    // Promise 7: "NONE"
    private static void signRefused() {
        for (int wrong : new int[] {LOW, -1, 3, 4, HIGH}) {
            USUAL.refuses("sign of stream " + wrong, x -> x.sign(wrong, 0), NONE);
        }
        for (int wrong : new int[] {LOW, -1, 4, 2000, HIGH}) {
            USUAL.refuses("sign " + wrong, x -> x.sign(0, wrong), NONE);
        }
        FULL.refuses("sign 2000", x -> x.sign(0, 2000), NONE);
    }

    // Promise 8: "NONE"
    private static void placedRefused() {
        for (int wrong : new int[] {LOW, -1, 3, 4, HIGH}) {
            USUAL.refuses("placed, stream " + wrong, x -> x.placed(wrong, 0, 0), NONE);
            USUAL.refuses("placed, what " + wrong, x -> x.placed(0, 0, wrong), NONE);
        }
        for (int wrong : new int[] {LOW, -1, 4, 2000, HIGH}) {
            USUAL.refuses("placed, sign " + wrong, x -> x.placed(0, wrong, 0), NONE);
        }
        FULL.refuses("placed, sign 2000", x -> x.placed(0, 2000, 2), NONE);
    }

    // Promise 9: "NONE: there is none"
    private static void atRefused() {
        for (int wrong : new int[] {LOW, -1, 3, 4, HIGH}) {
            USUAL.refuses("at, stream " + wrong, x -> x.at(wrong, 0), NONE);
        }
        for (int wrong : new int[] {LOW, -1, 5, 7, 8, 2000, HIGH}) {
            USUAL.refuses("at " + wrong, x -> x.at(0, wrong), NONE);
        }
        FULL.refuses("at 2000", x -> x.at(0, 2000), NONE);
    }

    // Promise 10: "NONE (stream, form)"
    private static void writeRefusedNone() {
        for (Scene scene : new Scene[] {NEW, USUAL, BROKEN}) {
            for (int wrong : NO_STREAMS) {
                scene.refuses("write of stream " + wrong, x -> x.write(wrong, 0, true), NONE);
            }
            for (int wrong : NO_FORMS_TO_WRITE) {
                for (int stream = 0; stream < 4; stream++) {
                    int source = stream;
                    scene.refuses("write of " + source + " in form " + wrong, x -> x.write(source, wrong, true), NONE);
                }
            }
        }
        FULL.refuses("write in form 6, before ROOM", x -> x.write(0, 6, true), NONE);
    }

    // Promise 10: "STATE: it is not open"
    private static void writeRefusedState() {
        for (int stream = 0; stream < 4; stream++) {
            int source = stream;
            NEW.refuses("write of " + source, x -> x.write(source, 0, true), STATE);
        }
        for (int form = 0; form <= 5; form++) {
            int written = form;
            USUAL.refuses("write of one that is not open", x -> x.write(3, written, true), STATE);
            USUAL.refuses("write of one that is not open", x -> x.write(3, written, false), STATE);
        }
        FULL.refuses("write of one that is not open", x -> x.write(3, 0, true), STATE);
    }

    // Promise 10: "ROOM: above 6000"
    private static void writeRefusedRoom() {
        FULL.refuses("write of 6003", x -> x.write(0, 0, true), ROOM);
        FULL.refuses("write of 6003, halved", x -> x.write(0, 5, true), ROOM);
        FULL.refuses("write of 8000", x -> x.write(0, 3, false), ROOM);
        FULL.refuses("write of 8004", x -> x.write(0, 4, true), ROOM);
    }

    // Promise 11: "NONE (stream, form); STATE; NONE: it is not 0 <= from <= to <= how many"
    private static void sizeRefused() {
        for (int wrong : NO_STREAMS) {
            USUAL.refuses("size, stream " + wrong, x -> x.size(wrong, 0, 0, 0), NONE);
        }
        for (int wrong : NO_FORMS_TO_WRITE) {
            USUAL.refuses("size in form " + wrong, x -> x.size(0, wrong, 0, 0), NONE);
            USUAL.refuses("size in form " + wrong + ", before STATE", x -> x.size(3, wrong, 0, 0), NONE);
        }
        USUAL.refuses("size, not open", x -> x.size(3, 0, 0, 0), STATE);
        USUAL.refuses("size, not open, before from", x -> x.size(3, 0, -1, 0), STATE);
        USUAL.refuses("size, not open, before to", x -> x.size(3, 0, 0, 1), STATE);
        USUAL.refuses("size, not open, from above to", x -> x.size(3, 0, 1, 0), STATE);
        USUAL.refuses("size from -1", x -> x.size(0, 0, -1, 0), NONE);
        USUAL.refuses("size to 5", x -> x.size(0, 0, 0, 5), NONE);
        USUAL.refuses("size from 2 to 1", x -> x.size(0, 0, 2, 1), NONE);
        USUAL.refuses("size from the least to the most", x -> x.size(0, 0, LOW, HIGH), NONE);
        FULL.refuses("size to 2001", x -> x.size(0, 0, 0, 2001), NONE);
    }

    // Promise 12: "NONE"
    private static void outRefused() {
        for (int wrong : new int[] {LOW, -1, 0, HIGH}) {
            NEW.refuses("out " + wrong, x -> x.out(wrong), NONE);
        }
        for (int wrong : new int[] {LOW, -1, 7, 6000, HIGH}) {
            USUAL.refuses("out " + wrong, x -> x.out(wrong), NONE);
        }
        FULL.refuses("out 6000", x -> x.out(6000), NONE);
    }

    // Promise 13: "NONE: no such form"
    private static void checkRefused() {
        for (int wrong : NO_FORMS_TO_WRITE) {
            NEW.refuses("check " + wrong, x -> x.check(wrong), NONE);
            USUAL.refuses("check " + wrong, x -> x.check(wrong), NONE);
        }
        FULL.refuses("check 6", x -> x.check(6), NONE);
    }

    // Promise 14: "NONE (streams, way); STATE: one is not open"
    private static void orderRefused() {
        for (int wrong : NO_STREAMS) {
            USUAL.refuses("order of " + wrong + " and 0", x -> x.order(wrong, 0, 0), NONE);
            USUAL.refuses("order of 0 and " + wrong, x -> x.order(0, wrong, 0), NONE);
            USUAL.refuses("order of 3 and " + wrong + ", before STATE", x -> x.order(3, wrong, 0), NONE);
            USUAL.refuses("order of " + wrong + " and 3, before STATE", x -> x.order(wrong, 3, 0), NONE);
        }
        for (int wrong : new int[] {LOW, -1, 3, HIGH}) {
            USUAL.refuses("order by way " + wrong, x -> x.order(0, 1, wrong), NONE);
            USUAL.refuses("order by way " + wrong + ", before STATE", x -> x.order(3, 0, wrong), NONE);
        }
        for (int way = 0; way <= 2; way++) {
            int asked = way;
            USUAL.refuses("order, the first not open", x -> x.order(3, 0, asked), STATE);
            USUAL.refuses("order, the second not open", x -> x.order(0, 3, asked), STATE);
            USUAL.refuses("order, both not open", x -> x.order(3, 3, asked), STATE);
        }
    }

    // Promise 15: "NONE; STATE"
    private static void amongRefused() {
        for (int wrong : NO_STREAMS) {
            USUAL.refuses("among, stream " + wrong, x -> x.among(wrong, 0, 9), NONE);
        }
        USUAL.refuses("among, not open", x -> x.among(3, 0, 9), STATE);
        USUAL.refuses("among, not open, from above to", x -> x.among(3, 9, 0), STATE);
    }

    /** What asks is no state change of any promise. */
    private static void askingChangesNothing() {
        for (Scene scene : new Scene[] {NEW, USUAL, BROKEN, FULL}) {
            State.Run asking = x -> {
                for (int stream = 0; stream < 4; stream++) {
                    x.about(stream, 0);
                    x.sign(stream, 0);
                    x.placed(stream, 0, 0);
                    x.at(stream, 0);
                    x.size(stream, stream, 0, 0);
                    x.order(stream, 0, 1);
                    x.among(stream, 0, 0xFFFF);
                }
                x.out(0);
                for (int form = 0; form < 6; form++) {
                    x.check(form);
                }
            };
            String difference = State.after(scene.run).difference(State.after(scene.run.then(asking)));
            due.is(scene.name + ": what asking changed", difference, "");
        }
    }
}
