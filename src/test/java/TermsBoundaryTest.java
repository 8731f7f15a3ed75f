/** Each sentence of the document's terms that names a boundary case, in a test of its own. */
public final class TermsBoundaryTest {
    private static final int NONE = -1, STATE = -2, ROOM = -3;
    private static final int RIGHT = -2;
    private static final Due due = new Due();
    private static final PartsDue parts = new PartsDue(due);

    public static void main(String[] args) {
        aSignIsAtMost10FFFF();
        aSignIsNotD800ToDFFF();
        halvesBeginAt10000();
        firstHalvesAreD800ToDBFF();
        secondHalvesAreDC00ToDFFF();
        bytesAreOneTo7F();
        bytesAreTwoTo7FF();
        bytesAreThreeToFFFF();
        bytesAreFourFromThereOn();
        pairsAreHalvesFrom10000On();
        foursAreAlwaysFour();
        halvedBytesAreHalvesFrom10000On();
        rightIsJustWhatSignsStandIn();
        aSignComesBeforeASubpart();
        aSubpartIsOneByteAtLeast();
        aSubpartIsTheLongestRow();
        aSubpartInHalvedBytesGoesIntoTheSecondHalf();
        aSubpartIsOfWholeUnits();
        whatIsLeftBehindTheLastUnit();
        eachMarkIsFound();
        whatIsNoMarkIsForm0();
        fffeAndNotForm4();
        onlyForm6HasAMark();
        theFormIsFoundAsSoonAsNoOtherIsLeft();
        theFormIsFoundAtTheEndAtTheLatest();
        streamsAre0To3();
        eachSubpartBecomesFFFD();
        eachSubpartIsLeftOut();
        theFirstSubpartBreaks();
        signsAreToldAsSoonAsDecided();
        aUnitCountsWhenAllOfItCame();
        anEndedStreamDecidesAll();
        placesCountTheMark();
        theOutIs6000AtMost();
        due.close("TermsBoundaryTest");
    }

    // "A SIGN is a number 0 .. 10FFFF"
    private static void aSignIsAtMost10FFFF() {
        parts.are(3, "00 00 00 00 00 10 FF FF 00 11 00 00", "0/4 10FFFF/4 -/4");
        parts.are(4, "00 00 00 00 FF FF 10 00 00 00 11 00", "0/4 10FFFF/4 -/4");
        parts.are(3, "7F FF FF FF 80 00 00 00 FF FF FF FF", "-/4 -/4 -/4");
        parts.are(4, "FF FF FF 7F 00 00 00 80 FF FF FF FF", "-/4 -/4 -/4");
        parts.are(3, "01 00 00 41 80 00 00 41", "-/4 -/4");
        parts.are(4, "41 00 00 01 41 00 00 80", "-/4 -/4");
        parts.are(0, "00 F4 8F BF BF F4 90 80 80", "0/1 10FFFF/4 -/1 -/1 -/1 -/1");
        parts.are(0, "F5 80 80 80 F7 BF BF BF", "-/1 -/1 -/1 -/1 -/1 -/1 -/1 -/1");
    }

    // "... but D800 .. DFFF"
    private static void aSignIsNotD800ToDFFF() {
        parts.are(0, "ED 9F BF EE 80 80", "D7FF/3 E000/3");
        parts.are(0, "ED A0 80", "-/1 -/1 -/1");
        parts.are(0, "ED BF BF", "-/1 -/1 -/1");
        parts.are(0, "ED A0 80 ED B0 80", "-/1 -/1 -/1 -/1 -/1 -/1");
        parts.are(1, "D7 FF E0 00 D8 00 E0 00 DF FF", "D7FF/2 E000/2 -/2 E000/2 -/2");
        parts.are(2, "FF D7 00 E0 00 D8 00 E0 FF DF", "D7FF/2 E000/2 -/2 E000/2 -/2");
        parts.are(3, "00 00 D7 FF 00 00 D8 00 00 00 DF FF 00 00 E0 00", "D7FF/4 -/4 -/4 E000/4");
        parts.are(4, "FF D7 00 00 00 D8 00 00 FF DF 00 00 00 E0 00 00", "D7FF/4 -/4 -/4 E000/4");
        parts.are(3, "00 00 D8 00 00 00 DC 00", "-/4 -/4");
        parts.are(3, "00 00 DB FF 00 00 DC 00", "-/4 -/4");
        parts.are(5, "ED 9F BF EE 80 80 ED A0 80 41 ED BF BF", "D7FF/3 E000/3 -/3 41/1 -/1 -/1 -/1");
    }

    // "HALVES of one of 10000 and more: with v less 10000: D800 + v / 400, then DC00 + v % 400"
    private static void halvesBeginAt10000() {
        parts.stands(1, "FFFF", "FF FF");
        parts.stands(1, "10000", "D8 00 DC 00");
        parts.stands(1, "103FF", "D8 00 DF FF");
        parts.stands(1, "10400", "D8 01 DC 00");
        parts.stands(1, "10FC00", "DB FF DC 00");
        parts.stands(1, "10FFFF", "DB FF DF FF");
    }

    // "D800 .. DBFF are FIRST [halves]"
    private static void firstHalvesAreD800ToDBFF() {
        parts.are(1, "D7 FF DC 00", "D7FF/2 -/2");
        parts.are(1, "D8 00 DC 00", "10000/4");
        parts.are(1, "DB FF DC 00", "10FC00/4");
        parts.are(1, "DC 00 DC 00", "-/2 -/2");
        parts.are(2, "FF D7 00 DC", "D7FF/2 -/2");
        parts.are(2, "FF DB 00 DC", "10FC00/4");
        parts.are(2, "00 DC 00 DC", "-/2 -/2");
        parts.are(5, "ED 9F BF ED B0 80", "D7FF/3 -/1 -/1 -/1");
        parts.are(5, "ED A0 80 ED B0 80", "10000/6");
        parts.are(5, "ED AF BF ED B0 80", "10FC00/6");
        parts.are(5, "ED B0 80 ED B0 80", "-/1 -/1 -/1 -/1 -/1 -/1");
    }

    // "DC00 .. DFFF [are] SECOND halves"
    private static void secondHalvesAreDC00ToDFFF() {
        parts.are(1, "D8 00 DB FF 00 41", "-/2 -/2 41/2");
        parts.are(1, "D8 00 DC 00", "10000/4");
        parts.are(1, "D8 00 DF FF", "103FF/4");
        parts.are(1, "D8 00 E0 00", "-/2 E000/2");
        parts.are(2, "00 D8 FF DB 41 00", "-/2 -/2 41/2");
        parts.are(2, "00 D8 FF DF", "103FF/4");
        parts.are(2, "00 D8 00 E0", "-/2 E000/2");
        parts.are(5, "ED A0 80 ED AF BF", "-/4 -/1 -/1");
        parts.are(5, "ED A0 80 ED BF BF", "103FF/6");
        parts.are(5, "ED A0 80 EE 80 80", "-/3 E000/3");
    }

    // "0 BYTES: 00 .. 7F itself"
    private static void bytesAreOneTo7F() {
        parts.stands(0, "0", "00");
        parts.stands(0, "7F", "7F");
        parts.are(0, "80", "-/1");
        parts.are(0, "C0 80", "-/1 -/1");
        parts.are(0, "C1 BF", "-/1 -/1");
        parts.are(0, "E0 80 80", "-/1 -/1 -/1");
    }

    // "to 7FF two bytes C0 + v / 40, 80 + v % 40"
    private static void bytesAreTwoTo7FF() {
        parts.stands(0, "80", "C2 80");
        parts.stands(0, "BF", "C2 BF");
        parts.stands(0, "C0", "C3 80");
        parts.stands(0, "7FF", "DF BF");
        parts.are(0, "C2 7F", "-/1 7F/1");
        parts.are(0, "C2 C0", "-/1 -/1");
        parts.are(0, "E0 9F BF", "-/1 -/1 -/1");
        parts.are(0, "F0 80 9F BF", "-/1 -/1 -/1 -/1");
    }

    // "to FFFF three E0 + v / 1000, 80 + v / 40 % 40, 80 + v % 40"
    private static void bytesAreThreeToFFFF() {
        parts.stands(0, "800", "E0 A0 80");
        parts.stands(0, "FFF", "E0 BF BF");
        parts.stands(0, "1000", "E1 80 80");
        parts.stands(0, "D7FF", "ED 9F BF");
        parts.stands(0, "E000", "EE 80 80");
        parts.stands(0, "FFFF", "EF BF BF");
        parts.are(0, "E1 7F", "-/1 7F/1");
        parts.are(0, "E1 C0 80", "-/1 -/1 -/1");
        parts.are(0, "E1 BF 7F", "-/2 7F/1");
        parts.are(0, "EF BF C0", "-/2 -/1");
        parts.are(0, "F0 8F BF BF", "-/1 -/1 -/1 -/1");
    }

    // "else four F0 + v / 40000, 80 + v / 1000 % 40, and so on"
    private static void bytesAreFourFromThereOn() {
        parts.stands(0, "10000", "F0 90 80 80");
        parts.stands(0, "3FFFF", "F0 BF BF BF");
        parts.stands(0, "40000", "F1 80 80 80");
        parts.stands(0, "FFFFF", "F3 BF BF BF");
        parts.stands(0, "100000", "F4 80 80 80");
        parts.stands(0, "10FFFF", "F4 8F BF BF");
        parts.are(0, "F1 7F", "-/1 7F/1");
        parts.are(0, "F3 C0", "-/1 -/1");
        parts.are(0, "F3 BF 7F", "-/2 7F/1");
        parts.are(0, "F0 90 80 C0", "-/3 -/1");
    }

    // "1 PAIRS, the higher byte first; 2, the lower first: two bytes; from 10000 on both HALVES"
    private static void pairsAreHalvesFrom10000On() {
        parts.stands(1, "0", "00 00");
        parts.stands(1, "FF", "00 FF");
        parts.stands(1, "100", "01 00");
        parts.stands(1, "E000", "E0 00");
        parts.stands(2, "0", "00 00");
        parts.stands(2, "FF", "FF 00");
        parts.stands(2, "100", "00 01");
        parts.stands(2, "D7FF", "FF D7");
        parts.stands(2, "FFFF", "FF FF");
        parts.stands(2, "10000", "00 D8 00 DC");
        parts.stands(2, "10FFFF", "FF DB FF DF");
    }

    // "3 FOURS, the highest byte first; 4, the lowest first: four bytes"
    private static void foursAreAlwaysFour() {
        parts.stands(3, "0", "00 00 00 00");
        parts.stands(3, "FFFF", "00 00 FF FF");
        parts.stands(3, "10000", "00 01 00 00");
        parts.stands(3, "10FFFF", "00 10 FF FF");
        parts.stands(4, "0", "00 00 00 00");
        parts.stands(4, "FFFF", "FF FF 00 00");
        parts.stands(4, "10000", "00 00 01 00");
        parts.stands(4, "10FFFF", "FF FF 10 00");
    }

    // "5 HALVED BYTES: as BYTES below 10000; from there on both HALVES, three bytes each"
    private static void halvedBytesAreHalvesFrom10000On() {
        parts.stands(5, "0", "00");
        parts.stands(5, "7F", "7F");
        parts.stands(5, "80", "C2 80");
        parts.stands(5, "7FF", "DF BF");
        parts.stands(5, "800", "E0 A0 80");
        parts.stands(5, "FFFF", "EF BF BF");
        parts.stands(5, "10000", "ED A0 80 ED B0 80");
        parts.stands(5, "103FF", "ED A0 80 ED BF BF");
        parts.stands(5, "10400", "ED A0 81 ED B0 80");
        parts.stands(5, "10FFFF", "ED AF BF ED BF BF");
        parts.are(5, "F0 90 80 80", "-/1 -/1 -/1 -/1");
        parts.are(5, "C1 BF E0 9F BF", "-/1 -/1 -/1 -/1 -/1");
    }

    // "A row of bytes is RIGHT in a form if it is just what signs stand in"
    private static void rightIsJustWhatSignsStandIn() {
        for (int form = 0; form < 6; form++) {
            due.is("the empty row, form " + form, new Counted().check(form), RIGHT);
        }
        parts.checked(0, "41", 0, RIGHT);
        parts.checked(0, "41", 1, 0);
        parts.checked(0, "41 42", 1, RIGHT);
        parts.checked(0, "41 42 43", 1, 2);
        parts.checked(0, "41 42 43", 3, 0);
        parts.checked(0, "00 01 41 42", 3, RIGHT);
        parts.checked(0, "00 01 41 42 00", 3, 4);
        parts.checked(1, "41 F4", 0, 1);
        parts.checked(1, "00 41 C2 80", 0, RIGHT);
        parts.checked(1, "00 41 F0 90", 0, 2);
        parts.checked(0, "F0 90 80 80", 5, 0);
        parts.checked(5, "ED A0 80 ED B0 80", 0, 0);
        parts.checked(5, "ED A0 80 ED B0 80", 5, RIGHT);
    }

    // "again and again, from the left, the next sign, if what comes begins as one stands in the form"
    private static void aSignComesBeforeASubpart() {
        parts.are(0, "", "");
        parts.are(0, "C3 A9 A9", "E9/2 -/1");
        parts.are(0, "E2 82 AC AC", "20AC/3 -/1");
        parts.are(0, "F0 9F 98 80 80", "1F600/4 -/1");
        parts.are(5, "ED 80 80 ED B0 80", "D000/3 -/1 -/1 -/1");
        parts.are(1, "D8 3D DE 00 DE 00", "1F600/4 -/2");
    }

    // "else the SUBPART ... one byte at least"
    private static void aSubpartIsOneByteAtLeast() {
        parts.are(0, "80 BF C0 C1 F5 FE FF", "-/1 -/1 -/1 -/1 -/1 -/1 -/1");
        parts.are(5, "80 BF C0 C1 F0 F4 F5 FF", "-/1 -/1 -/1 -/1 -/1 -/1 -/1 -/1");
        parts.are(0, "41 FF 42", "41/1 -/1 42/1");
        parts.are(0, "C2", "-/1");
        parts.are(0, "F4", "-/1");
    }

    // "the longest row of bytes that comes with which some sign's begins (but not all of it)"
    private static void aSubpartIsTheLongestRow() {
        parts.are(0, "C2 41 DF 41", "-/1 41/1 -/1 41/1");
        parts.are(0, "E0 A0 41 E0 9F 41", "-/2 41/1 -/1 -/1 41/1");
        parts.are(0, "ED 9F 41 ED A0 41", "-/2 41/1 -/1 -/1 41/1");
        parts.are(0, "F0 90 80 41 F0 8F 80 41", "-/3 41/1 -/1 -/1 -/1 41/1");
        parts.are(0, "F4 8F BF 41 F4 90 BF 41", "-/3 41/1 -/1 -/1 -/1 41/1");
        parts.are(0, "F0 90 F0 90 80 F0 90 80 80", "-/2 -/3 10000/4");
        parts.are(0, "E1 80 C2 C2 80", "-/2 -/1 80/2");
        parts.are(0, "F1 BF BF", "-/3");
        parts.are(0, "E0 BF", "-/2");
    }

    // the same sentence, where a sign is six bytes
    private static void aSubpartInHalvedBytesGoesIntoTheSecondHalf() {
        parts.are(5, "ED A0", "-/2");
        parts.are(5, "ED A0 80", "-/3");
        parts.are(5, "ED A0 80 ED", "-/4");
        parts.are(5, "ED A0 80 ED B0", "-/5");
        parts.are(5, "ED AF BF ED BF 7F", "-/5 7F/1");
        parts.are(5, "ED AF BF ED BF C0", "-/5 -/1");
        parts.are(5, "ED A0 80 ED AF BF", "-/4 -/1 -/1");
        parts.are(5, "ED A0 80 ED C0 41", "-/4 -/1 41/1");
        parts.are(5, "ED A0 80 ED 80 80", "-/4 -/1 -/1");
        parts.are(5, "ED A0 80 EC 80 80", "-/3 C000/3");
        parts.are(5, "ED A0 80 EE 80 80", "-/3 E000/3");
        parts.are(5, "ED A0 C0", "-/2 -/1");
        parts.are(5, "ED B0 80", "-/1 -/1 -/1");
    }

    // "Forms 1 to 4 count by UNITS of 2, or 4 bytes: a SUBPART is then of whole units, one at least"
    private static void aSubpartIsOfWholeUnits() {
        parts.are(1, "DC 00", "-/2");
        parts.are(1, "D8 00", "-/2");
        parts.are(1, "D8 00 D8 00 D8 00", "-/2 -/2 -/2");
        parts.are(1, "D8 00 00 DC DC 00", "-/2 DC/2 -/2");
        parts.are(2, "00 D8 DC 00 00 DC", "-/2 DC/2 -/2");
        parts.are(3, "FF 00 00 00 00 00 00 41", "-/4 41/4");
        parts.are(4, "00 00 00 FF 41 00 00 00", "-/4 41/4");
        parts.are(3, "00 00 D8 00", "-/4");
    }

    // "what is left behind the last whole unit is a SUBPART on its own, whatever is before it"
    private static void whatIsLeftBehindTheLastUnit() {
        parts.are(1, "41", "-/1");
        parts.are(2, "41", "-/1");
        parts.are(1, "00 41 00", "41/2 -/1");
        parts.are(1, "D8 00 DC", "-/2 -/1");
        parts.are(2, "00 D8 DC", "-/2 -/1");
        parts.are(1, "DC 00 DC", "-/2 -/1");
        parts.are(1, "D8 00 DC 00 DC", "10000/4 -/1");
        parts.are(1, "D8 00 D8 00 DC", "-/2 -/2 -/1");
        for (int form = 3; form <= 4; form++) {
            parts.are(form, "00", "-/1");
            parts.are(form, "00 00", "-/2");
            parts.are(form, "00 00 00", "-/3");
            parts.are(form, "00 00 00 00 00", "0/4 -/1");
            parts.are(form, "00 00 00 00 00 00", "0/4 -/2");
            parts.are(form, "00 00 00 00 00 00 00", "0/4 -/3");
            parts.are(form, "FF FF FF FF FF FF FF", "-/4 -/3");
        }
    }

    /** The form, whether there is a mark, and the signs of an ended stream that was opened in form 6. */
    private static void found(String row, int form, int mark, String signs) {
        for (int piece : new int[] {1, 2, 3, 8}) {
            Counted x = new Counted();
            x.open(2, 6, 0);
            Rows.put(x, 2, row, piece);
            x.end(2);
            String name = "form 6, " + row + " in pieces of " + piece;
            due.is(name + ": form", x.about(2, 0), form);
            due.is(name + ": whether a mark", x.about(2, 7), mark == 0 ? 0 : 1);
            due.is(name + ": signs", Rows.signs(x, 2), signs);
            due.is(name + ": bytes that came", x.about(2, 1), Rows.numbers(row).length);
            due.is(name + ": place of the first", x.placed(2, 0, 0), signs.isEmpty() ? NONE : mark);
            for (int place = 0; place < mark; place++) {
                due.is(name + ": no sign at " + place, x.at(2, place), NONE);
            }
        }
    }

    // "EF BB BF: 0; 00 00 FE FF: 3; FF FE 00 00: 4; FE FF: 1; ...; these bytes are no sign then"
    private static void eachMarkIsFound() {
        found("EF BB BF", 0, 3, "");
        found("EF BB BF 41", 0, 3, "41");
        found("EF BB BF EF BB BF", 0, 3, "FEFF");
        found("00 00 FE FF", 3, 4, "");
        found("00 00 FE FF 00 00 FE FF", 3, 4, "FEFF");
        found("FF FE 00 00", 4, 4, "");
        found("FF FE 00 00 FF FE 00 00", 4, 4, "FEFF");
        found("FE FF", 1, 2, "");
        found("FE FF FE FF", 1, 2, "FEFF");
        found("FE FF 00 00", 1, 2, "0");
        found("FF FE", 2, 2, "");
        found("FF FE FF FE", 2, 2, "FEFF");
    }

    // "else it is 0, without a mark"
    private static void whatIsNoMarkIsForm0() {
        found("", 0, 0, "");
        found("41", 0, 0, "41");
        found("EF BB BE", 0, 0, "FEFE");
        found("EF BA BF", 0, 0, "FEBF");
        found("EE BB BF", 0, 0, "EEFF");
        found("EF BB 41", 0, 0, "FFFD 41");
        found("EF BB", 0, 0, "FFFD");
        found("EF", 0, 0, "FFFD");
        found("00 00 FE FE", 0, 0, "0 0 FFFD FFFD");
        found("00 00 FF FF", 0, 0, "0 0 FFFD FFFD");
        found("00 01 FE FF", 0, 0, "0 1 FFFD FFFD");
        found("01 00 FE FF", 0, 0, "1 0 FFFD FFFD");
        found("00 00 00 FE FF", 0, 0, "0 0 0 FFFD FFFD");
        found("00 00 FE", 0, 0, "0 0 FFFD");
        found("00 00", 0, 0, "0 0");
        found("00", 0, 0, "0");
        found("FE FE", 0, 0, "FFFD FFFD");
        found("FF FF", 0, 0, "FFFD FFFD");
        found("FE", 0, 0, "FFFD");
        found("FF", 0, 0, "FFFD");
        found("41 EF BB BF", 0, 0, "41 FEFF");
    }

    // "FF FE (and not 4): 2"
    private static void fffeAndNotForm4() {
        found("FF FE", 2, 2, "");
        found("FF FE 00", 2, 2, "FFFD");
        found("FF FE 00 01", 2, 2, "100");
        found("FF FE 01 00", 2, 2, "1");
        found("FF FE 00 00", 4, 4, "");
        found("FF FE 00 00 00", 4, 4, "FFFD");
        found("FF FE 41 00 00 00", 2, 2, "41 0");
    }

    // "FORM 6 is FOUND": the other forms are told, and what would be a mark is a sign in them
    private static void onlyForm6HasAMark() {
        parts.are(0, "EF BB BF", "FEFF/3");
        parts.are(1, "FE FF", "FEFF/2");
        parts.are(2, "FF FE", "FEFF/2");
        parts.are(3, "00 00 FE FF", "FEFF/4");
        parts.are(4, "FF FE 00 00", "FEFF/4");
        parts.are(5, "EF BB BF", "FEFF/3");
        parts.are(2, "FF FE 00 00", "FEFF/2 0/2");
        parts.are(1, "FF FE 00 00", "FFFE/2 0/2");
        for (int form = 0; form < 6; form++) {
            Counted x = new Counted();
            x.open(0, form, 0);
            Rows.put(x, 0, "FF FE 00 00");
            due.is("form " + form + " stays", x.about(0, 0), form);
            due.is("form " + form + " has no mark", x.about(0, 7), 0);
        }
    }

    /** The form behind each byte of a row, and how many bytes are not decided then. */
    private static void finding(String row, String forms, String undecided) {
        Counted x = new Counted();
        x.open(0, 6, 0);
        StringBuilder found = new StringBuilder();
        StringBuilder waiting = new StringBuilder();
        for (int value : Rows.numbers(row)) {
            x.put(0, value, 1);
            found.append(found.length() > 0 ? " " : "").append(x.about(0, 0));
            waiting.append(waiting.length() > 0 ? " " : "").append(x.about(0, 4));
        }
        due.is("form 6, " + row + ": form byte by byte", found.toString(), forms);
        due.is("form 6, " + row + ": not decided byte by byte", waiting.toString(), undecided);
    }

    // "It is found as soon as the bytes that came leave no other"
    private static void theFormIsFoundAsSoonAsNoOtherIsLeft() {
        finding("EF BB BF 41", "6 6 0 0", "1 2 0 0");
        finding("EF BB BE", "6 6 0", "1 2 0");
        finding("EF 41", "6 0", "1 0");
        finding("EF BA", "6 0", "1 2");
        finding("FE FF 00 41", "6 1 1 1", "1 0 1 0");
        finding("FE FE", "6 0", "1 0");
        finding("FF FE 41 00", "6 6 2 2", "1 2 1 0");
        finding("FF FE 00 41", "6 6 6 2", "1 2 3 0");
        finding("FF FE 00 00", "6 6 6 4", "1 2 3 0");
        finding("FF FE FF", "6 6 2", "1 2 1");
        finding("FF FF", "6 0", "1 0");
        finding("00 00 FE FF", "6 6 6 3", "1 2 3 0");
        finding("00 00 FE FE", "6 6 6 0", "1 2 3 0");
        finding("00 00 00", "6 6 0", "1 2 0");
        finding("00 41", "6 0", "1 0");
        finding("41", "0", "0");
        finding("BF", "0", "0");
        finding("FD", "0", "0");
        finding("C3 A9", "0 0", "1 0");
    }

    // "... at the end at the latest"
    private static void theFormIsFoundAtTheEndAtTheLatest() {
        for (String row : new String[] {"", "EF", "EF BB", "FE", "FF", "00", "00 00", "00 00 FE", "FF FE", "FF FE 00"}) {
            Counted x = new Counted();
            x.open(0, 6, 1);
            Rows.put(x, 0, row);
            due.is(row + ": not found yet", x.about(0, 0), 6);
            due.is(row + ": no mark yet", x.about(0, 7), 0);
            due.is(row + ": no sign yet", x.about(0, 2), 0);
            due.is(row + ": no SUBPART yet", x.about(0, 3), 0);
            due.is(row + ": not decided", x.about(0, 4), Rows.numbers(row).length);
            x.end(0);
            due.is(row + ": found at the end", x.about(0, 0), row.startsWith("FF FE") ? 2 : 0);
            due.is(row + ": all decided", x.about(0, 4), 0);
        }
    }

    // "STREAMS 0 .. 3, each with a form and a POLICY"
    private static void streamsAre0To3() {
        Counted x = new Counted();
        due.is("stream -1", x.open(-1, 0, 0), false);
        due.is("stream 4", x.open(4, 0, 0), false);
        x.open(0, 0, 0);
        x.open(1, 1, 1);
        x.open(2, 2, 2);
        due.is("stream 3 is not open yet", x.about(3, 0), STATE);
        x.open(3, 6, 0);
        Rows.put(x, 0, "41 FF");
        Rows.put(x, 1, "DC 00 00 42");
        Rows.put(x, 2, "43 00 00 DC 44 00");
        Rows.put(x, 3, "FE FF 00 45 DC 00");
        due.is("signs of 0", Rows.signs(x, 0), "41 FFFD");
        due.is("signs of 1", Rows.signs(x, 1), "42");
        due.is("signs of 2", Rows.signs(x, 2), "43");
        due.is("signs of 3", Rows.signs(x, 3), "45 FFFD");
        x.end(1);
        for (int stream = 0; stream < 4; stream++) {
            due.is("only 1 is ended: " + stream, x.about(stream, 5), stream == 1 ? 1 : 0);
        }
    }

    private static void policyFacts(int policy, String row, String signs, int subparts, int broken, int first) {
        Counted x = new Counted();
        x.open(3, 0, policy);
        Rows.put(x, 3, row);
        x.end(3);
        String name = "policy " + policy + ", " + row;
        due.is(name + ": signs", Rows.signs(x, 3), signs);
        due.is(name + ": SUBPARTS", x.about(3, 3), subparts);
        due.is(name + ": broken at", x.about(3, 6), broken);
        due.is(name + ": first SUBPART", x.about(3, 8), first);
    }

    // "0 each becomes the sign FFFD"
    private static void eachSubpartBecomesFFFD() {
        policyFacts(0, "FF", "FFFD", 1, NONE, 0);
        policyFacts(0, "FF FF 41", "FFFD FFFD 41", 2, NONE, 0);
        policyFacts(0, "41 E2 82", "41 FFFD", 1, NONE, 1);
        policyFacts(0, "41 EF BF BD", "41 FFFD", 0, NONE, NONE);
        policyFacts(0, "", "", 0, NONE, NONE);
    }

    // "1 each is left out"
    private static void eachSubpartIsLeftOut() {
        policyFacts(1, "FF", "", 1, NONE, 0);
        policyFacts(1, "FF FF 41", "41", 2, NONE, 0);
        policyFacts(1, "41 E2 82", "41", 1, NONE, 1);
        policyFacts(1, "41 EF BF BD", "41 FFFD", 0, NONE, NONE);
        policyFacts(1, "", "", 0, NONE, NONE);
    }

    // "2 the first one BREAKS the stream: it is left out, and so is all behind it"
    private static void theFirstSubpartBreaks() {
        policyFacts(2, "FF", "", 1, 0, 0);
        policyFacts(2, "FF FF 41", "", 1, 0, 0);
        policyFacts(2, "41 FF 42 FF", "41", 1, 1, 1);
        policyFacts(2, "41 E2 82", "41", 1, 1, 1);
        policyFacts(2, "41 EF BF BD", "41 FFFD", 0, NONE, NONE);
        policyFacts(2, "", "", 0, NONE, NONE);
        Counted x = new Counted();
        x.open(0, 0, 2);
        Rows.put(x, 0, "41 FF C3");
        due.is("nothing waits behind the break", x.about(0, 4), 0);
        Rows.put(x, 0, "A9 FF 43");
        due.is("behind the break: signs", Rows.signs(x, 0), "41");
        due.is("behind the break: SUBPARTS", x.about(0, 3), 1);
        due.is("behind the break: broken at", x.about(0, 6), 1);
        due.is("behind the break: bytes that came", x.about(0, 1), 6);
    }

    // "Signs and SUBPARTS are told as soon as the bytes that came decide them"
    private static void signsAreToldAsSoonAsDecided() {
        parts.told(0, "7F", "1 1");
        parts.told(0, "DF BF", "0 1 1");
        parts.told(0, "EF BF BF", "0 0 1 1");
        parts.told(0, "F4 8F BF BF", "0 0 0 1 1");
        parts.told(0, "80", "1 1");
        parts.told(0, "C1 F5", "1 2 2");
        parts.told(0, "C2 41", "0 2 2");
        parts.told(0, "C2 C2", "0 1 2");
        parts.told(0, "E0 9F", "0 2 2");
        parts.told(0, "E0 A0 C0", "0 0 2 2");
        parts.told(0, "ED A0", "0 2 2");
        parts.told(0, "F0 90 80 41", "0 0 0 2 2");
        parts.told(0, "F4 90", "0 2 2");
        parts.told(5, "F0", "1 1");
        parts.told(5, "ED B0", "0 2 2");
        parts.told(5, "ED A0 80 ED B0 80", "0 0 0 0 0 1 1");
        parts.told(5, "ED A0 80 41", "0 0 0 2 2");
        parts.told(5, "ED A0 80 ED AF", "0 0 0 0 2 2");
        parts.told(5, "ED A0 80 ED B0 41", "0 0 0 0 0 2 2");
    }

    // "(in forms 1 to 4 a UNIT counts when all of it came)"
    private static void aUnitCountsWhenAllOfItCame() {
        parts.told(1, "00 41", "0 1 1");
        parts.told(2, "41 00", "0 1 1");
        parts.told(1, "DC 00", "0 1 1");
        parts.told(2, "00 DC", "0 1 1");
        parts.told(1, "D8 00 DC 00", "0 0 0 1 1");
        parts.told(1, "D8 00 00 41", "0 0 0 2 2");
        parts.told(1, "D8 00 D8 00", "0 0 0 1 2");
        parts.told(2, "00 D8 41 00", "0 0 0 2 2");
        parts.told(3, "00 00 00 41", "0 0 0 1 1");
        parts.told(3, "FF 00 00 00", "0 0 0 1 1");
        parts.told(4, "41 00 00 00", "0 0 0 1 1");
        parts.told(4, "00 00 00 FF", "0 0 0 1 1");
    }

    // "a stream that is ENDED decides all"
    private static void anEndedStreamDecidesAll() {
        parts.told(0, "C2", "0 1");
        parts.told(0, "F4 8F BF", "0 0 0 1");
        parts.told(1, "D8 00 DC", "0 0 0 2");
        parts.told(2, "41", "0 1");
        parts.told(3, "00 00 00", "0 0 0 1");
        parts.told(4, "41 00 00 00 42", "0 0 0 1 1 2");
        parts.told(5, "ED A0 80 ED B0", "0 0 0 0 0 1");
        parts.told(6, "EF BB", "0 0 1");
        parts.told(6, "00 00 FE", "0 0 0 3");
        parts.told(6, "FF FE 00", "0 0 0 1");
    }

    // "its PLACE (how many bytes were before it, the mark too) and how many bytes it was"
    private static void placesCountTheMark() {
        Counted x = new Counted();
        x.open(0, 6, 1);
        Rows.put(x, 0, "EF BB BF FF F0 9F 98 80 41");
        due.is("place behind a mark and a SUBPART", x.placed(0, 0, 0), 4);
        due.is("its bytes", x.placed(0, 0, 1), 4);
        due.is("place of the next", x.placed(0, 1, 0), 8);
        due.is("first SUBPART behind a mark", x.about(0, 8), 3);
        x.open(0, 6, 2);
        Rows.put(x, 0, "FE FF DC 00");
        due.is("broken behind a mark", x.about(0, 6), 2);
        x.open(0, 0, 0);
        Rows.put(x, 0, "41");
        due.is("the first place", x.placed(0, 0, 0), 0);
    }

    // "THE OUT is a row of bytes, 6000 at most"
    private static void theOutIs6000AtMost() {
        Counted x = new Counted();
        x.open(0, 0, 0);
        Rows.fill(x, 0, 0xFF, 2000);
        due.is("just 6000", x.write(0, 0, false), 6000);
        due.is("byte 5999", x.out(5999), 0xBD);
        due.is("byte 6000", x.out(6000), NONE);
        due.is("above 6000", x.write(0, 0, true), ROOM);
        due.is("above 6000", x.write(0, 4, false), ROOM);
    }
}
