/** Each promise by itself: ordinary inputs, the edges that the document names, wrong inputs. */
public final class PromisesTest {
    private static final int NONE = -1, STATE = -2, ROOM = -3;
    private static final int RIGHT = -2;
    private static final int LOW = Integer.MIN_VALUE, HIGH = Integer.MAX_VALUE;
    private static final Due due = new Due();

    public static void main(String[] args) {
        newObject();
        opening();
        putting();
        pouring();
        ending();
        aboutStreams();
        findingForms();
        deciding();
        parting();
        signsAndPlaces();
        signOverPlace();
        writing();
        sizes();
        outBytes();
        checking();
        ordering();
        counting();
        due.close("PromisesTest");
    }

    // Promise 1
    private static void newObject() {
        Counted x = new Counted();
        due.is("NONE", SignForms.NONE, NONE);
        due.is("STATE", SignForms.STATE, STATE);
        due.is("ROOM", SignForms.ROOM, ROOM);
        for (int s = 0; s < 4; s++) {
            due.is("new: put", x.put(s, 0x41, 1), STATE);
            due.is("new: pour", x.pour(s, 0, 0), STATE);
            due.is("new: end", x.end(s), STATE);
            due.is("new: about", x.about(s, 1), STATE);
            due.is("new: sign", x.sign(s, 0), NONE);
            due.is("new: placed", x.placed(s, 0, 0), NONE);
            due.is("new: at", x.at(s, 0), NONE);
            due.is("new: write", x.write(s, 0, true), STATE);
            due.is("new: size", x.size(s, 0, 0, 0), STATE);
            due.is("new: size with a wrong end", x.size(s, 0, 3, 1), STATE);
            due.is("new: order", x.order(s, s, 0), STATE);
            due.is("new: among", x.among(s, 0, 9), STATE);
        }
        due.is("new: out", x.out(0), NONE);
        for (int form = 0; form < 6; form++) {
            due.is("new: check", x.check(form), RIGHT);
        }
        Counted y = new Counted();
        y.open(0, 0, 0);
        due.is("objects share no stream", x.about(0, 0), STATE);
    }

    // Promise 2
    private static void opening() {
        Counted x = new Counted();
        for (int wrong : new int[] {LOW, -1, 4, HIGH}) {
            due.is("open, no such stream", x.open(wrong, 0, 0), false);
        }
        for (int wrong : new int[] {LOW, -1, 7, HIGH}) {
            due.is("open, no such form", x.open(0, wrong, 0), false);
        }
        for (int wrong : new int[] {LOW, -1, 3, HIGH}) {
            due.is("open, no such policy", x.open(0, 0, wrong), false);
        }
        due.is("refused open opens nothing", x.about(0, 0), STATE);
        for (int form = 0; form <= 6; form++) {
            for (int policy = 0; policy <= 2; policy++) {
                due.is("open", x.open(form % 4, form, policy), true);
                due.is("its form", x.about(form % 4, 0), form);
            }
        }
        x.open(1, 6, 2);
        put(x, 1, 0xFE, 0xFF, 0xDC, 0x00, 0x41);
        x.end(1);
        due.is("a refused open changes nothing", x.open(1, 0, 3), false);
        facts(x, 1, 1, 5, 0, 1, 0, 1, 2, 1, 2);
        due.is("opened again", x.open(1, 6, 0), true);
        facts(x, 1, 6, 0, 0, 0, 0, 0, NONE, 0, NONE);
        put(x, 1, 0x41);
        due.is("takes bytes again", x.sign(1, 0), 0x41);
        x.open(1, 0, 0);
        due.is("no signs", x.sign(1, 0), NONE);
    }

    // Promise 3
    private static void putting() {
        Counted x = new Counted();
        x.open(0, 0, 0);
        for (int wrong : new int[] {LOW, -1, 4, HIGH}) {
            due.is("put, no such stream", x.put(wrong, 0, 1), NONE);
        }
        for (int wrong : new int[] {LOW, -1, 0, 9, HIGH}) {
            due.is("put, n", x.put(0, 0, wrong), NONE);
            due.is("put, n before STATE", x.put(1, 0, wrong), NONE);
        }
        due.is("nothing came", x.about(0, 1), 0);
        due.is("put 8", x.put(0, 0x4142434445464748L, 8), 8);
        due.is("put 1 of more", x.put(0, 0x6162L, 1), 9);
        due.is("put 3 of more", x.put(0, 0x61626364L, 3), 12);
        signs(x, 0, 0x41, 0x42, 0x43, 0x44, 0x45, 0x46, 0x47, 0x48, 0x62, 0x62, 0x63, 0x64);
        due.is("put 8, the highest bit", x.put(0, 0xF09F98807F7F7F7FL, 8), 17);
        due.is("the highest bit", x.sign(0, 12), 0x1F600);
        roomOfPut();
        x.end(0);
        due.is("put, ended", x.put(0, 0x41, 1), STATE);
        due.is("put, ended, n", x.put(0, 0x41, 0), NONE);
    }

    private static void roomOfPut() {
        Counted x = new Counted();
        x.open(0, 0, 2);
        for (int k = 1; k <= 249; k++) {
            due.is("put", x.put(0, 0x4141414141414141L, 8), 8 * k);
        }
        due.is("put", x.put(0, 0x41414141, 4), 1996);
        due.is("put above 2000", x.put(0, 0xFFFFFFFFFFL, 5), ROOM);
        facts(x, 0, 0, 1996, 1996, 0, 0, 0, NONE, 0, NONE);
        due.is("put to 2000", x.put(0, 0x414141FF, 4), 1999);
        facts(x, 0, 0, 2000, 1999, 1, 0, 0, 1999, 0, 1999);
        due.is("put above 2000 when broken", x.put(0, 0x41, 1), ROOM);
        due.is("n before ROOM", x.put(0, 0x41, 9), NONE);
        due.is("end", x.end(0), 1999);
        due.is("STATE before ROOM", x.put(0, 0x41, 1), STATE);
        x.open(0, 0, 2);
        due.is("broken at once", x.put(0, 0xFF41, 2), 0);
        due.is("broken takes bytes", x.put(0, 0x4142, 2), 0);
        facts(x, 0, 0, 4, 0, 1, 0, 0, 0, 0, 0);
    }

    // Promise 4
    private static void pouring() {
        Counted x = new Counted();
        x.open(0, 0, 0);
        x.open(1, 0, 0);
        due.is("pour of nothing", x.pour(1, 0, 5), 0);
        due.is("pour behind nothing", x.pour(1, 1, 5), NONE);
        put(x, 0, 0x41, 0x42, 0x43, 0x44, 0x45);
        x.write(0, 0, false);
        for (int wrong : new int[] {LOW, -1, 4, HIGH}) {
            due.is("pour, no such stream", x.pour(wrong, 0, 1), NONE);
        }
        for (int wrong : new int[] {LOW, -1, 6, HIGH}) {
            due.is("pour, i", x.pour(1, wrong, 1), NONE);
            due.is("pour, i before STATE", x.pour(2, wrong, 1), NONE);
        }
        due.is("pour, n", x.pour(1, 0, -1), NONE);
        due.is("pour, n", x.pour(1, 0, LOW), NONE);
        due.is("pour, not open", x.pour(2, 0, 1), STATE);
        due.is("nothing came", x.about(1, 1), 0);
        due.is("pour from the end", x.pour(1, 5, HIGH), 0);
        due.is("pour none", x.pour(1, 2, 0), 0);
        due.is("pour 2", x.pour(1, 1, 2), 2);
        due.is("pour the rest", x.pour(1, 3, HIGH), 2);
        due.is("pour just the rest", x.pour(1, 4, 1), 1);
        signs(x, 1, 0x42, 0x43, 0x44, 0x45, 0x45);
        due.is("pour to its own", x.pour(0, 0, 9), 5);
        due.is("signs", x.about(0, 2), 10);
        due.is("the out stays", x.out(4), 0x45);
        x.end(1);
        due.is("pour, ended", x.pour(1, 0, 1), STATE);
        roomOfPour();
    }

    private static void roomOfPour() {
        Counted x = new Counted();
        x.open(0, 0, 0);
        for (int k = 0; k < 125; k++) {
            x.put(0, 0x4142434445464748L, 8);
        }
        x.write(0, 0, false);
        x.open(1, 0, 0);
        due.is("pour 1000", x.pour(1, 0, 1000), 1000);
        due.is("pour 999", x.pour(1, 1, 1000), 999);
        due.is("pour 2 above", x.pour(1, 0, 2), ROOM);
        due.is("nothing came", x.about(1, 1), 1999);
        due.is("pour none", x.pour(1, 0, 0), 0);
        due.is("pour the last", x.pour(1, 999, 2000), 1);
        due.is("full", x.about(1, 2), 2000);
        due.is("pour none into the full", x.pour(1, 1000, 7), 0);
        due.is("pour above", x.pour(1, 0, 1), ROOM);
        due.is("i before ROOM", x.pour(1, 1001, 1), NONE);
        x.end(1);
        due.is("STATE before ROOM", x.pour(1, 0, 1), STATE);
        x.write(1, 0, false);
        x.open(2, 0, 0);
        due.is("pour 2000 at once", x.pour(2, 0, 2000), 2000);
        facts(x, 2, 0, 2000, 2000, 0, 0, 0, NONE, 0, NONE);
    }

    // Promise 5
    private static void ending() {
        Counted x = new Counted();
        for (int wrong : new int[] {LOW, -1, 4, HIGH}) {
            due.is("end, no such stream", x.end(wrong), NONE);
        }
        due.is("end, not open", x.end(3), STATE);
        x.open(3, 0, 0);
        due.is("end with no bytes", x.end(3), 0);
        due.is("end again", x.end(3), STATE);
        due.is("ended", x.about(3, 5), 1);
        x.open(3, 0, 0);
        due.is("not decided", put(x, 3, 0x41, 0xF0, 0x9F, 0x98), 1);
        due.is("end decides", x.end(3), 2);
        facts(x, 3, 0, 4, 2, 1, 0, 1, NONE, 0, 1);
        x.open(3, 0, 1);
        put(x, 3, 0x41, 0xF0, 0x9F, 0x98);
        due.is("end leaves out", x.end(3), 1);
        facts(x, 3, 0, 4, 1, 1, 0, 1, NONE, 0, 1);
        x.open(3, 1, 2);
        put(x, 3, 0x00, 0x41, 0xD8, 0x00, 0xDC);
        due.is("end breaks", x.end(3), 1);
        facts(x, 3, 1, 5, 1, 1, 0, 1, 2, 0, 2);
    }

    // Promise 6
    private static void aboutStreams() {
        Counted x = new Counted();
        x.open(0, 0, 0);
        for (int wrong : new int[] {LOW, -1, 4, HIGH}) {
            due.is("about, no such stream", x.about(wrong, 0), NONE);
        }
        for (int wrong : new int[] {LOW, -1, 9, HIGH}) {
            due.is("about, what", x.about(0, wrong), NONE);
            due.is("about, what before STATE", x.about(1, wrong), NONE);
        }
        due.is("about, not open", x.about(1, 8), STATE);
        facts(x, 0, 0, 0, 0, 0, 0, 0, NONE, 0, NONE);
        put(x, 0, 0x41, 0xFF, 0xC3, 0xA9, 0x80, 0xE2, 0x82);
        facts(x, 0, 0, 7, 4, 2, 2, 0, NONE, 0, 1);
        x.open(0, 0, 1);
        put(x, 0, 0x41, 0xFF, 0xC3, 0xA9, 0x80, 0xE2, 0x82);
        facts(x, 0, 0, 7, 2, 2, 2, 0, NONE, 0, 1);
        x.open(0, 0, 2);
        put(x, 0, 0x41, 0xFF, 0xC3, 0xA9, 0x80, 0xE2, 0x82);
        facts(x, 0, 0, 7, 1, 1, 0, 0, 1, 0, 1);
        x.end(0);
        facts(x, 0, 0, 7, 1, 1, 0, 1, 1, 0, 1);
        x.open(0, 0, 0);
        put(x, 0, 0xEF, 0xBB, 0xBF);
        facts(x, 0, 0, 3, 1, 0, 0, 0, NONE, 0, NONE);
    }

    // Form 6, of promises 2, 5 and 6
    private static void findingForms() {
        found("nothing", 0, 0, 0);
        found("EF BB BF", 0, 3, 0, 0xEF, 0xBB, 0xBF);
        found("EF BB", 0, 0, 1, 0xEF, 0xBB);
        found("EF BB BE", 0, 0, 1, 0xEF, 0xBB, 0xBE);
        found("EF 41", 0, 0, 2, 0xEF, 0x41);
        found("FE FF", 1, 2, 0, 0xFE, 0xFF);
        found("FE FF 00", 1, 2, 1, 0xFE, 0xFF, 0x00);
        found("FE FF 00 00", 1, 2, 1, 0xFE, 0xFF, 0x00, 0x00);
        found("FE", 0, 0, 1, 0xFE);
        found("FE FE", 0, 0, 2, 0xFE, 0xFE);
        found("FF FE", 2, 2, 0, 0xFF, 0xFE);
        found("FF FE 00", 2, 2, 1, 0xFF, 0xFE, 0x00);
        found("FF FE 00 41", 2, 2, 1, 0xFF, 0xFE, 0x00, 0x41);
        found("FF FE 41 00", 2, 2, 1, 0xFF, 0xFE, 0x41, 0x00);
        found("FF FE 00 00", 4, 4, 0, 0xFF, 0xFE, 0x00, 0x00);
        found("FF", 0, 0, 1, 0xFF);
        found("FF FF", 0, 0, 2, 0xFF, 0xFF);
        found("00 00 FE FF", 3, 4, 0, 0x00, 0x00, 0xFE, 0xFF);
        found("00 00 FE", 0, 0, 3, 0x00, 0x00, 0xFE);
        found("00 00 FE FE", 0, 0, 4, 0x00, 0x00, 0xFE, 0xFE);
        found("00 00 41", 0, 0, 3, 0x00, 0x00, 0x41);
        found("00 41", 0, 0, 2, 0x00, 0x41);
        found("00", 0, 0, 1, 0x00);
        found("41", 0, 0, 1, 0x41);
        found("EF BB BF EF BB BF", 0, 3, 1, 0xEF, 0xBB, 0xBF, 0xEF, 0xBB, 0xBF);
        found("FE FF FE FF", 1, 2, 1, 0xFE, 0xFF, 0xFE, 0xFF);
        formsByByte("EF BB 41", new int[] {0xEF, 0xBB, 0x41}, new int[] {6, 6, 0}, new int[] {0, 0, 2});
        formsByByte("FF FE 41", new int[] {0xFF, 0xFE, 0x41}, new int[] {6, 6, 2}, new int[] {0, 0, 0});
        formsByByte("FF FE 00 41", new int[] {0xFF, 0xFE, 0, 0x41}, new int[] {6, 6, 6, 2}, new int[] {0, 0, 0, 1});
        formsByByte("FF 41", new int[] {0xFF, 0x41}, new int[] {6, 0}, new int[] {0, 2});
        formsByByte("FE 41", new int[] {0xFE, 0x41}, new int[] {6, 0}, new int[] {0, 2});
        formsByByte("FE FF", new int[] {0xFE, 0xFF}, new int[] {6, 1}, new int[] {0, 0});
        formsByByte("00 00 FE 00", new int[] {0, 0, 0xFE, 0}, new int[] {6, 6, 6, 0}, new int[] {0, 0, 0, 4});
        formsByByte("00 FE", new int[] {0, 0xFE}, new int[] {6, 0}, new int[] {0, 2});
        formsByByte("41 41", new int[] {0x41, 0x41}, new int[] {0, 0}, new int[] {1, 2});
        Counted x = new Counted();
        x.open(0, 6, 2);
        put(x, 0, 0xFF);
        due.is("not broken before it is found", x.about(0, 6), NONE);
        put(x, 0, 0x41);
        facts(x, 0, 0, 2, 0, 1, 0, 0, 0, 0, 0);
    }

    /** The form and the bytes of the mark that an ended stream has, and its signs. */
    private static void found(String row, int form, int mark, int signs, int... bytes) {
        Counted x = new Counted();
        x.open(2, 6, 0);
        due.is(row + ", before any", x.about(2, 0), 6);
        put(x, 2, bytes);
        due.is(row + ", signs", x.end(2), signs);
        due.is(row + ", form", x.about(2, 0), form);
        due.is(row + ", mark", x.about(2, 7), mark == 0 ? 0 : 1);
        due.is(row + ", undecided", x.about(2, 4), 0);
        if (mark > 0) {
            due.is(row + ", no sign over the mark", x.at(2, mark - 1), NONE);
        }
        if (signs > 0) {
            due.is(row + ", first place", x.placed(2, 0, 0), mark);
        }
    }

    private static void formsByByte(String row, int[] bytes, int[] forms, int[] signs) {
        Counted x = new Counted();
        x.open(2, 6, 0);
        for (int k = 0; k < bytes.length; k++) {
            due.is(row + ", signs behind byte " + k, x.put(2, bytes[k], 1), signs[k]);
            due.is(row + ", form behind byte " + k, x.about(2, 0), forms[k]);
            if (forms[k] == 6) {
                due.is(row + ", undecided behind byte " + k, x.about(2, 4), k + 1);
            }
        }
    }

    // When signs and SUBPARTS are told, of promises 3, 5 and 6
    private static void deciding() {
        told("euro", 0, new int[] {0xE2, 0x82, 0xAC}, new int[] {0, 0, 1}, 1);
        told("cut by a sign", 0, new int[] {0xF0, 0x9F, 0x41}, new int[] {0, 0, 2}, 2);
        told("no lead", 0, new int[] {0xC0, 0xC1, 0xF5, 0xFF, 0x80}, new int[] {1, 2, 3, 4, 5}, 5);
        told("too low", 0, new int[] {0xE0, 0x9F, 0xF0, 0x8F}, new int[] {0, 2, 2, 4}, 4);
        told("halves", 0, new int[] {0xED, 0xA0, 0x80}, new int[] {0, 2, 3}, 3);
        told("too high", 0, new int[] {0xF4, 0x90, 0x80, 0x80}, new int[] {0, 2, 3, 4}, 4);
        told("lead behind lead", 0, new int[] {0xC3, 0xC3, 0xA9}, new int[] {0, 1, 2}, 2);
        told("pair", 1, new int[] {0x00, 0x41}, new int[] {0, 1}, 1);
        told("halves in pairs", 1, new int[] {0xD8, 0x00, 0xDC, 0x00}, new int[] {0, 0, 0, 1}, 1);
        told("a unit counts when all came", 1, new int[] {0xD8, 0x00, 0x00, 0x41}, new int[] {0, 0, 0, 2}, 2);
        told("two first halves", 1, new int[] {0xD8, 0x00, 0xD8, 0x01, 0xDC}, new int[] {0, 0, 0, 1, 1}, 3);
        told("second half", 2, new int[] {0x00, 0xDC, 0x41}, new int[] {0, 1, 1}, 2);
        told("four", 3, new int[] {0xFF, 0, 0, 0, 0x41, 0, 0}, new int[] {0, 0, 0, 1, 1, 1, 1}, 2);
        told("four, low first", 4, new int[] {0x41, 0, 0, 0}, new int[] {0, 0, 0, 1}, 1);
        told("halved", 5, new int[] {0xED, 0xA0, 0x80, 0xED, 0xB0, 0x80}, new int[] {0, 0, 0, 0, 0, 1}, 1);
        told("halved, cut", 5, new int[] {0xED, 0xA0, 0x80, 0xED, 0xA0, 0x80}, new int[] {0, 0, 0, 0, 2, 3}, 3);
        told("halved, second first", 5, new int[] {0xED, 0xB0, 0x80}, new int[] {0, 2, 3}, 3);
        told("halved, four bytes", 5, new int[] {0xF0, 0x9F}, new int[] {1, 2}, 2);
    }

    /** How many signs a stream has behind each byte, and ended. */
    private static void told(String row, int form, int[] bytes, int[] signs, int ended) {
        Counted x = new Counted();
        x.open(0, form, 0);
        for (int k = 0; k < bytes.length; k++) {
            due.is(row + ", signs behind byte " + k, x.put(0, bytes[k], 1), signs[k]);
        }
        due.is(row + ", ended", x.end(0), ended);
    }

    // How a row is parted, of the terms: the lengths of its parts, negative for SUBPARTS
    private static void parting() {
        parted(0, new int[] {0x7F, 0xC2, 0x80, 0xDF, 0xBF, 0xE0, 0xA0, 0x80}, 1, 2, 2, 3);
        parted(0, new int[] {0xEF, 0xBF, 0xBF, 0xF0, 0x90, 0x80, 0x80, 0xF4, 0x8F, 0xBF, 0xBF}, 3, 4, 4);
        parted(0, new int[] {0xED, 0x9F, 0xBF, 0xEE, 0x80, 0x80}, 3, 3);
        parted(0, new int[] {0xF0, 0x90, 0x80, 0x41, 0xE2, 0x82, 0xE2, 0x82, 0xAC}, -3, 1, -2, 3);
        parted(0, new int[] {0xF4, 0x8F, 0xBF, 0xC0, 0xF4, 0x90, 0xBF}, -3, -1, -1, -1, -1);
        parted(1, new int[] {0xD7, 0xFF, 0xE0, 0x00, 0xDB, 0xFF, 0xDF, 0xFF, 0xD8, 0, 0xDC}, 2, 2, 4, -2, -1);
        parted(1, new int[] {0xDC, 0x00, 0xD8, 0x00, 0x00, 0x41, 0xD8}, -2, -2, 2, -1);
        parted(2, new int[] {0x3D, 0xD8, 0x00, 0xDE, 0x00, 0xD8, 0x00}, 4, -2, -1);
        parted(3, new int[] {0, 0x10, 0xFF, 0xFF, 0, 0x11, 0, 0, 0, 0, 0xD8, 0, 0, 0, 0xDF, 0xFF, 1, 2, 3},
                4, -4, -4, -4, -3);
        parted(4, new int[] {0xFF, 0xD7, 0, 0, 0, 0xE0, 0, 0, 0, 0, 0, 0x80, 0xFF, 0xFF, 0xFF, 0xFF, 0}, 4, 4, -4, -4, -1);
        parted(5, new int[] {0xED, 0xA0, 0x80, 0xED, 0x80, 0x80}, -4, -1, -1);
        parted(5, new int[] {0xED, 0xA0, 0x80, 0xED, 0xBF, 0x41}, -5, 1);
        parted(5, new int[] {0xED, 0xA0, 0x80, 0xED, 0xAF, 0x41}, -4, -1, 1);
        parted(5, new int[] {0xED, 0xA0, 0x80, 0xED, 0xC0, 0x41}, -4, -1, 1);
        parted(5, new int[] {0xED, 0xA0, 0x80, 0xED, 0xB0, 0x7F}, -5, 1);
        parted(5, new int[] {0xED, 0xA0, 0x80, 0xED, 0xB0, 0xC0}, -5, -1);
        parted(5, new int[] {0xED, 0xA0, 0x80, 0xEC, 0x80, 0x80}, -3, 3);
        parted(5, new int[] {0xED, 0xA0, 0x80, 0xEE, 0x80, 0x80}, -3, 3);
        parted(5, new int[] {0xED, 0xAF, 0xBF, 0xED, 0xBF, 0xBF, 0xED, 0xAF, 0xBF}, 6, -3);
        parted(5, new int[] {0xED, 0xA0, 0xED, 0xB0, 0x80, 0xED, 0x9F, 0xBF}, -2, -1, -1, -1, 3);
        parted(5, new int[] {0xED, 0xA0, 0x80, 0x41, 0xF0, 0x90, 0x80, 0x80}, -3, 1, -1, -1, -1, -1);
    }

    private static void parted(int form, int[] bytes, int... lengths) {
        Counted x = new Counted();
        x.open(0, form, 0);
        put(x, 0, bytes);
        due.is("parts in form " + form, x.end(0), lengths.length);
        int place = 0;
        int subparts = 0;
        for (int i = 0; i < lengths.length; i++) {
            String name = "form " + form + ", part " + i;
            due.is(name + ", place", x.placed(0, i, 0), place);
            due.is(name + ", bytes", x.placed(0, i, 1), Math.abs(lengths[i]));
            due.is(name + ", replaced", x.placed(0, i, 2), lengths[i] < 0 ? 1 : 0);
            if (lengths[i] < 0) {
                subparts++;
                due.is(name + ", sign", x.sign(0, i), 0xFFFD);
            }
            place += Math.abs(lengths[i]);
        }
        due.is("subparts in form " + form, x.about(0, 3), subparts);
    }

    // Promises 7 and 8
    private static void signsAndPlaces() {
        Counted x = new Counted();
        x.open(0, 0, 0);
        put(x, 0, 0x00, 0x7F, 0xC2, 0x80, 0xFF, 0xEF, 0xBF, 0xBD, 0xF4, 0x8F, 0xBF, 0xBF, 0xE2);
        signs(x, 0, 0, 0x7F, 0x80, 0xFFFD, 0xFFFD, 0x10FFFF);
        row(x, 0, 0, 0, 1, 2, 4, 5, 8);
        row(x, 0, 1, 1, 1, 2, 1, 3, 4);
        row(x, 0, 2, 0, 0, 0, 1, 0, 0);
        for (int wrong : new int[] {LOW, -1, 6, HIGH}) {
            due.is("sign, i", x.sign(0, wrong), NONE);
            for (int what = 0; what < 3; what++) {
                due.is("placed, i", x.placed(0, wrong, what), NONE);
            }
        }
        for (int wrong : new int[] {LOW, -1, 3, HIGH}) {
            due.is("placed, what", x.placed(0, 0, wrong), NONE);
        }
        for (int wrong : new int[] {LOW, -1, 1, 4, HIGH}) {
            due.is("sign, stream", x.sign(wrong, 0), NONE);
            due.is("placed, stream", x.placed(wrong, 0, 0), NONE);
        }
        x.open(1, 5, 0);
        put(x, 1, 0xED, 0xA0, 0x80, 0xED, 0xB0, 0x80, 0xED, 0xA0, 0x80, 0xED, 0xB0, 0x81);
        put(x, 1, 0xED, 0xA0, 0xBD, 0xED, 0xB8, 0x80, 0xED, 0xAF, 0xBF, 0xED, 0xBF, 0xBF);
        signs(x, 1, 0x10000, 0x10001, 0x1F600, 0x10FFFF);
        row(x, 1, 0, 0, 6, 12, 18);
        row(x, 1, 1, 6, 6, 6, 6);
        x.open(1, 6, 1);
        put(x, 1, 0xFF, 0xFE, 0x00, 0xDC, 0x3D, 0xD8, 0x00, 0xDE, 0x41, 0x00);
        signs(x, 1, 0x1F600, 0x41);
        row(x, 1, 0, 4, 8);
        row(x, 1, 1, 4, 2);
        row(x, 1, 2, 0, 0);
    }

    // Promise 9
    private static void signOverPlace() {
        Counted x = new Counted();
        x.open(0, 6, 0);
        put(x, 0, 0xEF, 0xBB, 0xBF, 0x41, 0xE2, 0x82, 0xAC, 0xF0, 0x9F, 0x42, 0xC3);
        over(x, 0, NONE, NONE, NONE, 0, 1, 1, 1, 2, 2, 3, NONE, NONE);
        x.end(0);
        over(x, 0, NONE, NONE, NONE, 0, 1, 1, 1, 2, 2, 3, 4, NONE);
        x.open(1, 0, 1);
        put(x, 1, 0xFF, 0x41, 0xFF, 0x42);
        over(x, 1, NONE, 0, NONE, 1, NONE);
        x.open(2, 0, 2);
        put(x, 2, 0x41, 0xFF, 0x42);
        over(x, 2, 0, NONE, NONE, NONE);
        for (int wrong : new int[] {LOW, -1, 2000, HIGH}) {
            due.is("at, place", x.at(0, wrong), NONE);
        }
        for (int wrong : new int[] {LOW, -1, 3, 4, HIGH}) {
            due.is("at, stream", x.at(wrong, 0), NONE);
        }
    }

    private static void over(Counted x, int stream, int... numbers) {
        for (int place = 0; place < numbers.length; place++) {
            due.is("at(" + stream + ", " + place + ")", x.at(stream, place), numbers[place]);
        }
    }

    // Promise 10
    private static void writing() {
        Counted x = new Counted();
        x.open(0, 0, 0);
        put(x, 0, 0x41, 0xC3, 0xA9, 0xE2, 0x82, 0xAC, 0xF0, 0x9F, 0x98, 0x80, 0xC3);
        written(x, 0, false, 0x41, 0xC3, 0xA9, 0xE2, 0x82, 0xAC, 0xF0, 0x9F, 0x98, 0x80);
        written(x, 1, false, 0, 0x41, 0, 0xE9, 0x20, 0xAC, 0xD8, 0x3D, 0xDE, 0);
        written(x, 2, false, 0x41, 0, 0xE9, 0, 0xAC, 0x20, 0x3D, 0xD8, 0, 0xDE);
        written(x, 3, false, 0, 0, 0, 0x41, 0, 0, 0, 0xE9, 0, 0, 0x20, 0xAC, 0, 1, 0xF6, 0);
        written(x, 4, false, 0x41, 0, 0, 0, 0xE9, 0, 0, 0, 0xAC, 0x20, 0, 0, 0, 0xF6, 1, 0);
        written(x, 5, false, 0x41, 0xC3, 0xA9, 0xE2, 0x82, 0xAC, 0xED, 0xA0, 0xBD, 0xED, 0xB8, 0x80);
        for (int wrong : new int[] {LOW, -1, 6, 7, HIGH}) {
            due.is("write, form", x.write(0, wrong, true), NONE);
            due.is("write, form before STATE", x.write(1, wrong, true), NONE);
        }
        for (int wrong : new int[] {LOW, -1, 4, HIGH}) {
            due.is("write, stream", x.write(wrong, 0, true), NONE);
        }
        due.is("write, not open", x.write(1, 0, true), STATE);
        due.is("a refused write leaves the out", x.out(11), 0x80);
        due.is("a refused write leaves the out", x.out(12), NONE);
        x.open(0, 0, 0);
        written(x, 0, true, 0xEF, 0xBB, 0xBF);
        written(x, 1, true, 0xFE, 0xFF);
        written(x, 2, true, 0xFF, 0xFE);
        written(x, 3, true, 0, 0, 0xFE, 0xFF);
        written(x, 4, true, 0xFF, 0xFE, 0, 0);
        written(x, 5, true, 0xEF, 0xBB, 0xBF);
        put(x, 0, 0xF4, 0x8F, 0xBF, 0xBF);
        written(x, 2, true, 0xFF, 0xFE, 0xFF, 0xDB, 0xFF, 0xDF);
        written(x, 5, true, 0xEF, 0xBB, 0xBF, 0xED, 0xAF, 0xBF, 0xED, 0xBF, 0xBF);
        x.open(0, 0, 0);
        written(x, 0, false);
        roomOfWrite();
    }

    private static void roomOfWrite() {
        Counted x = new Counted();
        x.open(0, 0, 0);
        for (int k = 0; k < 250; k++) {
            x.put(0, -1L, 8);
        }
        due.is("write of 6000", x.write(0, 0, false), 6000);
        due.is("write above 6000", x.write(0, 0, true), ROOM);
        due.is("write above 6000", x.write(0, 3, false), ROOM);
        due.is("the out stays", x.out(5999), 0xBD);
        due.is("the out ends", x.out(6000), NONE);
        due.is("the out stays right", x.check(0), RIGHT);
        due.is("pour of 6000", x.pour(0, 0, 6000), ROOM);
        due.is("form before ROOM", x.write(0, 6, false), NONE);
        x = new Counted();
        x.open(0, 0, 0);
        x.put(0, 0x41FFFFFFFFFFFFFFL, 8);
        for (int k = 1; k < 250; k++) {
            x.put(0, -1L, 8);
        }
        due.is("write of 5998", x.write(0, 0, false), 5998);
        due.is("write of 6001", x.write(0, 0, true), ROOM);
        x = new Counted();
        x.open(0, 0, 0);
        for (int k = 0; k < 187; k++) {
            x.put(0, 0x4141414141414141L, 8);
        }
        x.put(0, 0x414141, 3);
        due.is("write of 6000, marked", x.write(0, 4, true), 6000);
        x.put(0, 0x41, 1);
        due.is("write of 6000", x.write(0, 4, false), 6000);
        due.is("write of 6004", x.write(0, 4, true), ROOM);
    }

    private static void written(Counted x, int form, boolean marked, int... bytes) {
        String name = "write in form " + form;
        due.is(name, x.write(0, form, marked), bytes.length);
        for (int i = 0; i < bytes.length; i++) {
            due.is(name + ", byte " + i, x.out(i), bytes[i]);
        }
        due.is(name + ", behind it", x.out(bytes.length), NONE);
        due.is(name + ", right", x.check(form), RIGHT);
    }

    // Promise 11
    private static void sizes() {
        Counted x = new Counted();
        x.open(0, 3, 0);
        int[] edges = {0, 0x7F, 0x80, 0x7FF, 0x800, 0xFFFF, 0x10000, 0x10FFFF};
        for (int edge : edges) {
            x.put(0, edge, 4);
        }
        int[][] want = {
            {1, 1, 2, 2, 3, 3, 4, 4}, {2, 2, 2, 2, 2, 2, 4, 4}, {2, 2, 2, 2, 2, 2, 4, 4},
            {4, 4, 4, 4, 4, 4, 4, 4}, {4, 4, 4, 4, 4, 4, 4, 4}, {1, 1, 2, 2, 3, 3, 6, 6},
        };
        for (int form = 0; form < 6; form++) {
            int sum = 0;
            for (int i = 0; i < edges.length; i++) {
                due.is("size of one", x.size(0, form, i, i + 1), want[form][i]);
                due.is("size of none", x.size(0, form, i, i), 0);
                due.is("size of those before", x.size(0, form, 0, i), sum);
                sum += want[form][i];
            }
            due.is("size of all", x.size(0, form, 0, 8), sum);
            due.is("size at the end", x.size(0, form, 8, 8), 0);
            due.is("size, to", x.size(0, form, 0, 9), NONE);
            due.is("size, to", x.size(0, form, 0, HIGH), NONE);
            due.is("size, from", x.size(0, form, 9, 9), NONE);
            due.is("size, from", x.size(0, form, -1, 8), NONE);
            due.is("size, from", x.size(0, form, LOW, HIGH), NONE);
            due.is("size, from above to", x.size(0, form, 3, 2), NONE);
        }
        for (int wrong : new int[] {LOW, -1, 6, HIGH}) {
            due.is("size, form", x.size(0, wrong, 0, 0), NONE);
            due.is("size, form before STATE", x.size(1, wrong, 0, 0), NONE);
        }
        for (int wrong : new int[] {LOW, -1, 4, HIGH}) {
            due.is("size, stream", x.size(wrong, 0, 0, 0), NONE);
        }
        due.is("size, STATE before from", x.size(1, 0, -1, 0), STATE);
    }

    // Promise 12
    private static void outBytes() {
        Counted x = new Counted();
        for (int wrong : new int[] {LOW, -1, 0, 5999, 6000, HIGH}) {
            due.is("out of nothing", x.out(wrong), NONE);
        }
        x.open(0, 3, 0);
        for (int value = 0; value < 256; value += 2) {
            x.put(0, (long) value << 32 | value + 1, 8);
        }
        x.write(0, 4, false);
        for (int value = 0; value < 256; value++) {
            due.is("out, byte", x.out(4 * value), value);
        }
        for (int wrong : new int[] {LOW, -1, 1024, 6000, HIGH}) {
            due.is("out, i", x.out(wrong), NONE);
        }
        x.open(0, 0, 0);
        put(x, 0, 0x41);
        x.write(0, 0, false);
        due.is("a shorter out", x.out(0), 0x41);
        due.is("a shorter out ends", x.out(1), NONE);
    }

    // Promise 13
    private static void checking() {
        Counted x = new Counted();
        for (int wrong : new int[] {LOW, -1, 6, 7, HIGH}) {
            due.is("check, form", x.check(wrong), NONE);
        }
        x.open(0, 3, 0);
        x.put(0, 0x41, 4);
        x.put(0, 0x1F600, 4);
        x.put(0, 0x20AC, 4);
        checked(x, 0, RIGHT, RIGHT, RIGHT, 0, 0, 1);
        checked(x, 1, 2, RIGHT, RIGHT, 0, 0, 2);
        checked(x, 2, 3, RIGHT, RIGHT, 0, 0, 3);
        checked(x, 3, 6, RIGHT, RIGHT, RIGHT, 0, 6);
        checked(x, 4, 5, RIGHT, RIGHT, 0, RIGHT, 5);
        checked(x, 5, 1, RIGHT, RIGHT, 0, 0, RIGHT);
        fill(x, 0, 3, new int[] {0x41, 0xD8, 0xDC, 0xDC});
        checked(x, 2, 2, 6, RIGHT, 0, 0, 2);
        fill(x, 0, 3, new int[] {0x4100, 0xFFFD, 0x41, 0xDC});
        checked(x, 1, 2, RIGHT, 6, 0, 0, 2);
        fill(x, 0, 3, new int[] {0x41, 0xD8});
        checked(x, 2, 2, 2, RIGHT, 0, 0, 2);
        x.open(0, 0, 0);
        put(x, 0, 0x41, 0x42, 0x43);
        x.write(0, 0, false);
        due.is("check, odd", x.check(1), 2);
        due.is("check, odd", x.check(2), 2);
        due.is("check, rest of four", x.check(3), 0);
        due.is("check, rest of four", x.check(4), 0);
        due.is("check, bytes", x.check(0), RIGHT);
        due.is("check, halved bytes", x.check(5), RIGHT);
        due.is("check changes nothing", x.out(2), 0x43);
    }

    /** What check answers for each form when the signs were written in one. */
    private static void checked(Counted x, int form, int... answers) {
        x.write(0, form, false);
        for (int other = 0; other < answers.length; other++) {
            due.is("check(" + other + ") of form " + form, x.check(other), answers[other]);
        }
    }

    // Promise 14
    private static void ordering() {
        Counted x = new Counted();
        ordered(x, new int[] {}, new int[] {}, 0, 0, 0);
        ordered(x, new int[] {}, new int[] {0}, 1, 1, 1);
        ordered(x, new int[] {0x41, 0x42}, new int[] {0x41, 0x42}, 0, 0, 0);
        ordered(x, new int[] {0x41}, new int[] {0x41, 0}, 1, 1, 1);
        ordered(x, new int[] {0x42}, new int[] {0x41, 0x43}, 2, 2, 2);
        ordered(x, new int[] {0xFFFF}, new int[] {0x10000}, 1, 2, 2);
        ordered(x, new int[] {0xE000}, new int[] {0x10FFFF}, 1, 2, 1);
        ordered(x, new int[] {0xD7FF}, new int[] {0x10000}, 1, 1, 2);
        ordered(x, new int[] {0x1FF}, new int[] {0x200}, 1, 1, 2);
        ordered(x, new int[] {0x141}, new int[] {0x241}, 1, 1, 1);
        ordered(x, new int[] {0x41}, new int[] {0x141}, 1, 1, 1);
        ordered(x, new int[] {0x10001}, new int[] {0x10100}, 1, 1, 2);
        ordered(x, new int[] {0x10000}, new int[] {0x10100}, 1, 1, 1);
        ordered(x, new int[] {0x1F4FF}, new int[] {0x5F400}, 1, 1, 1);
        ordered(x, new int[] {0x10100}, new int[] {0x10200}, 1, 1, 1);
        ordered(x, new int[] {0x10FC00}, new int[] {0x10000}, 2, 2, 2);
        ordered(x, new int[] {0x41, 0x3DD8}, new int[] {0x41, 0x1F600}, 1, 1, 2);
        ordered(x, new int[] {0x41, 0x1FF, 0}, new int[] {0x41, 0x200, 5}, 1, 1, 2);
        for (int wrong : new int[] {LOW, -1, 4, HIGH}) {
            due.is("order, first", x.order(wrong, 0, 0), NONE);
            due.is("order, second", x.order(0, wrong, 0), NONE);
            due.is("order, second before STATE", x.order(3, wrong, 0), NONE);
        }
        for (int wrong : new int[] {LOW, -1, 3, HIGH}) {
            due.is("order, way", x.order(0, 1, wrong), NONE);
            due.is("order, way before STATE", x.order(0, 3, wrong), NONE);
        }
        due.is("order, first not open", x.order(3, 0, 0), STATE);
        due.is("order, second not open", x.order(0, 3, 2), STATE);
    }

    private static void ordered(Counted x, int[] one, int[] other, int... answers) {
        fill(x, 0, 3, one);
        fill(x, 1, 3, other);
        for (int way = 0; way < 3; way++) {
            due.is("order by way " + way, x.order(0, 1, way), answers[way]);
            due.is("order turned by way " + way, x.order(1, 0, way), answers[way] == 0 ? 0 : 3 - answers[way]);
            due.is("order of the same", x.order(0, 0, way), 0);
        }
    }

    // Promise 15
    private static void counting() {
        Counted x = new Counted();
        fill(x, 0, 3, new int[] {0, 0x41, 0x42, 0x42, 0xFFFF, 0x10FFFF, 0xD800});
        due.is("among one", x.among(0, 0x42, 0x42), 2);
        due.is("among some", x.among(0, 0x41, 0x42), 3);
        due.is("among all", x.among(0, LOW, HIGH), 7);
        due.is("among the least", x.among(0, -5, 0), 1);
        due.is("among the last", x.among(0, 0x10FFFF, HIGH), 1);
        due.is("among with the replaced", x.among(0, 0xFFFD, 0xFFFD), 1);
        due.is("among halves", x.among(0, 0xD800, 0xDFFF), 0);
        due.is("among none", x.among(0, 0x42, 0x41), 0);
        due.is("among none", x.among(0, HIGH, LOW), 0);
        for (int wrong : new int[] {LOW, -1, 4, HIGH}) {
            due.is("among, stream", x.among(wrong, 0, 1), NONE);
        }
        due.is("among, not open", x.among(1, 0, 1), STATE);
        due.is("among, not open", x.among(1, 1, 0), STATE);
    }

    private static void fill(Counted x, int stream, int form, int[] units) {
        x.open(stream, form, 0);
        for (int unit : units) {
            x.put(stream, unit, 4);
        }
    }

    /** Puts bytes one by one; answers what the last put answered. */
    private static int put(Counted x, int stream, int... bytes) {
        int last = 0;
        for (int value : bytes) {
            last = x.put(stream, value, 1);
        }
        return last;
    }

    private static void facts(Counted x, int stream, int... facts) {
        for (int what = 0; what < facts.length; what++) {
            due.is("about(" + stream + ", " + what + ")", x.about(stream, what), facts[what]);
        }
    }

    private static void signs(Counted x, int stream, int... signs) {
        due.is("signs of " + stream, x.about(stream, 2), signs.length);
        for (int i = 0; i < signs.length; i++) {
            due.is("sign(" + stream + ", " + i + ")", x.sign(stream, i), signs[i]);
        }
        due.is("sign behind the last", x.sign(stream, signs.length), NONE);
    }

    private static void row(Counted x, int stream, int what, int... row) {
        for (int i = 0; i < row.length; i++) {
            due.is("placed(" + stream + ", " + i + ", " + what + ")", x.placed(stream, i, what), row[i]);
        }
    }
}
