/** Edges of the napkin's text, the tape and the fault: promises 1 to 4. */
final class TextEdges extends Edges {
    @Says(promise = TERMS, value = "public static final int NONE = -1;")
    static void none() {
        due(-1, NapkinDeeds.NONE);
    }

    // ---- the text

    @Says(promise = TERMS, value = "THE NAPKIN is a TEXT of at most 900 bytes")
    static void aTextOf900Bytes() {
        String last = "guest 7;";
        String text = "cell 1 back 2;" + times(900 - 14 - 8, " ") + last;
        NapkinDeeds x = new NapkinDeeds();
        feed(x, text);
        due(900, x.count(10));
        due(2, x.napkin(900));
        due(1, x.count(2));
        feed(x, text);
        due(-12, x.napkin(899));
        due(899, x.fault(1));
    }

    @Says(promise = TERMS, value = "THE NAPKIN is a TEXT of at most 900 bytes")
    static void aLawOf900Bytes() {
        String sum = "worth:" + times(446, "1+") + "1;";
        due(900, sum.length());
        due(447, told(sum).worth());
        String any = "holds:" + times(178, "1<1or") + "1=1;";
        due(900, any.length());
        dueTrue(told(any).holds());
        String likes = "guest 1;likes:" + times(442, "2*") + "2;";
        due(900, likes.length());
        due(1000000, told(likes).likes(0));
    }

    @Says(promise = TERMS, value = "(without one: no CELLS, no GUESTS)")
    static void withoutANapkin() {
        NapkinDeeds x = new NapkinDeeds();
        due(0, x.count(1));
        due(0, x.count(2));
        due(0, x.count(3));
        due(NO_SUCH.getName(), thrown(x, y -> y.cell(0, 0)));
        due(NO_SUCH.getName(), thrown(x, y -> y.likes(0)));
    }

    @Says(promise = TERMS, value = "{ LINE ; }")
    static void noLineAtAll() {
        due(0, tell(new NapkinDeeds(), ""));
        due(0, tell(new NapkinDeeds(), "   \n\n "));
    }

    @Says(promise = TERMS, value = "{ LINE ; }")
    static void asManyLinesAsThereIsRoomFor() {
        NapkinDeeds x = new NapkinDeeds();
        due(112, tell(x, times(111, "worth:1;") + "worth:2;"));
        due(112, x.count(0));
        due(2, x.worth());
    }

    @Says(promise = TERMS, value = "{ LINE ; }")
    static void anEmptyLine() {
        fault(2, 0, ";");
        fault(2, 8, "guest 1;;");
        fault(2, 8, "guest 1 guest 2;");
    }

    @Says(promise = TERMS, value = "cell N back N | guest N | worth : SUM | holds : TRUTH | likes : SUM.")
    static void whatBeginsALine() {
        for (String word : new String[] {"back", "or", "and", "not", "wide", "high", "folds", "top", "under", "hidden", "want"}) {
            fault(2, 0, word + " 1;");
        }
        fault(2, 5, "cell back 1;");
        fault(2, 7, "cell 1 2;");
        fault(2, 6, "worth 1;");
        fault(2, 6, "worth:;");
        fault(2, 6, "holds:;");
        fault(2, 6, "likes:;");
        fault(2, 5, "worth;");
        fault(2, 5, "holds;");
        fault(2, 5, "likes;");
        fault(2, 5, "guest;");
        fault(2, 4, "cell;");
    }

    // ---- the language of laws

    @Says(promise = TERMS, value = "TRUTH: BOTH { or BOTH }; BOTH: UNIT { and UNIT }; UNIT: not UNIT, [ TRUTH ]")
    static void andBindsCloserThanOr() {
        dueTrue(told("holds:1=1 or 1=1 and 1=2;").holds());
        dueTrue(told("holds:1=2 and 1=1 or 1=1;").holds());
        dueFalse(told("holds:[1=1 or 1=1] and 1=2;").holds());
        dueFalse(told("holds:not 1=1 or 1=2;").holds());
        dueTrue(told("holds:not 1=2 and 1=1;").holds());
        dueFalse(told("holds:not 1=2 and 1=2;").holds());
        dueTrue(told("holds:not[1=2 and 1=2];").holds());
        dueTrue(told("holds:not not 1=1;").holds());
        fault(2, 12, "holds:1=1 or;");
        fault(2, 13, "holds:1=1 and;");
        fault(2, 9, "holds:not;");
        fault(2, 7, "holds:[];");
    }

    @Says(promise = TERMS, value = "SUM, one of = < >, SUM")
    static void oneOfTheThreeSigns() {
        dueTrue(told("holds:5=5;").holds());
        dueFalse(told("holds:5=6;").holds());
        dueTrue(told("holds:5<6;").holds());
        dueFalse(told("holds:5<5;").holds());
        dueTrue(told("holds:6>5;").holds());
        dueFalse(told("holds:5>5;").holds());
        dueTrue(told("holds:5<6 and 5=5 and 6>5;").holds());
        dueTrue(told("holds:5=6 or 5<6;").holds());
        dueTrue(told("holds:5=6 or 6>5;").holds());
        dueFalse(told("holds:not 5<6 or not 6>5 or not 5=5;").holds());
        fault(2, 8, "holds:1<=2;");
        fault(2, 9, "holds:1=1=1;");
        fault(2, 6, "holds:=1;");
        fault(2, 7, "holds:1;");
        fault(2, 8, "holds:1=;");
    }

    @Says(promise = TERMS, value = "SUM: TERM { + TERM | - TERM }; TERM: ATOM { * ATOM }; ATOM: N, ( SUM )")
    static void sumsAndTerms() {
        due(7, told("worth:1+2*3;").worth());
        due(9, told("worth:(1+2)*3;").worth());
        due(-4, told("worth:1-2-3;").worth());
        due(2, told("worth:1-(2-3);").worth());
        due(24, told("worth:2*3*4;").worth());
        due(0, told("worth:0;").worth());
        fault(2, 6, "worth:-1;");
        fault(2, 6, "worth:+1;");
        fault(2, 8, "worth:1+;");
        fault(2, 8, "worth:1-;");
        fault(2, 8, "worth:1*;");
        fault(2, 8, "worth:1+-1;");
        fault(2, 7, "worth:();");
        fault(2, 7, "worth:1(2);");
    }

    @Says(promise = TERMS, value = "in likes guest, want too")
    static void guestAndWantInLikesAlone() {
        due(307, told("guest 7;guest 7;guest 7;guest 7;likes:guest*100+want;").likes(3));
        fault(2, 6, "worth:guest;");
        fault(2, 6, "worth:want;");
        fault(2, 9, "worth:1+(want);");
        fault(2, 6, "holds:guest=1;");
        fault(2, 8, "holds:1=want;");
        fault(2, 23, "likes:guest+want;worth:want;");
    }

    @Says(promise = TERMS, value = "At most six of not [ ( within one another.")
    static void sixWithinOneAnother() {
        due(5, told("worth:((((((5))))));").worth());
        dueTrue(told("holds:[[[[[[1=1]]]]]];").holds());
        dueTrue(told("holds:not not not not not not 1=1;").holds());
        dueTrue(told("holds:not[not[not(1)=2 or((2))=3]];").holds());
        dueTrue(told("holds:not[not[1=((1))]];").holds());
        due(9, told("guest 9;likes:((((((want))))));").likes(0));
    }

    @Says(promise = TERMS, value = "At most six of not [ ( within one another.")
    static void sevenWithinOneAnother() {
        fault(4, 12, "worth:(((((((5)))))));");
        fault(4, 12, "holds:[[[[[[[1=1]]]]]]];");
        fault(4, 30, "holds:not not not not not not not 1=1;");
        fault(4, 22, "holds:not not not[not[not[(1)=1]]];");
        fault(4, 14, "holds:[[[[[[1=(1)]]]]]];");
        fault(4, 14, "holds:[[[[[1=((1))]]]]];");
        fault(4, 30, "holds:not not not not not not [1=1];");
        fault(4, 12, "likes:(((((((want)))))));");
    }

    @Says(promise = TERMS, value = "At most six of not [ ( within one another.")
    static void besideOneAnotherThereMayBeMore() {
        due(14, told("worth:((((((7))))))+((((((7))))));").worth());
        due(8, told("worth:(1)+(1)+(1)+(1)+(1)+(1)+(1)+(1);").worth());
        dueTrue(told("holds:not not not not not not 1=1 and not not not not not not 1=1;").holds());
        dueTrue(told("holds:[[[[[[1=1]]]]]]and[[[[[[1=1]]]]]]or((((((1))))))=((((((1))))));").holds());
        due(2, tell(new NapkinDeeds(), "worth:((((((5))))));likes:((((((5))))));"));
    }

    @Says(promise = TERMS, value = "cell: its MARK in front, 0 to 99, at its back, 0 to 99")
    static void theBoundsOfMarks() {
        NapkinDeeds x = told("cell 0 back 99;cell 99 back 0;");
        due(0, x.cell(0, 0));
        due(99, x.cell(0, 1));
        due(99, x.cell(1, 0));
        due(0, x.cell(1, 1));
        fault(3, 5, "cell 100 back 0;");
        fault(3, 12, "cell 0 back 100;");
        fault(3, 5, "cell 999 back 999;");
    }

    @Says(promise = TERMS, value = "a strip from left to right, numbered from 0 on, 6 at most.")
    static void sixCells() {
        NapkinDeeds x = strip(6);
        due(6, x.count(1));
        due("0|1|2|3|4|5", lies(x));
        due(15, x.cell(5, 0));
        due(25, x.cell(5, 1));
        String six = times(6, "cell 1 back 1;");
        fault(4, 84, six + "cell 1 back 1;");
        fault(4, 84, six + "cell");
        fault(4, 92, six + "guest 1;cell 100 back 1;");
    }

    @Says(promise = TERMS, value = "guest: what it WANTS, 0 to 99; numbered from 0 on, 4 at most.")
    static void fourGuests() {
        NapkinDeeds x = told("guest 0;guest 99;guest 1;guest 98;likes:want;");
        due(4, x.count(2));
        due(0, x.likes(0));
        due(99, x.likes(1));
        due(98, x.likes(3));
        fault(3, 6, "guest 100;");
        fault(4, 32, times(5, "guest 1;"));
        fault(4, 32, times(4, "guest 1;") + "guest 100;");
        fault(4, 32, times(4, "guest 1;") + "guest");
    }

    @Says(promise = TERMS, value = "Later ones of worth, holds, likes strike.")
    static void laterLawsStrike() {
        NapkinDeeds x = told("worth:1;holds:1=1;likes:3;worth:4;guest 0;worth:5;");
        due(5, x.worth());
        dueTrue(x.holds());
        due(3, x.likes(0));
        NapkinDeeds y = told("holds:1=2;likes:3;holds:1=1;likes:4;guest 0;worth:6;");
        due(6, y.worth());
        dueTrue(y.holds());
        due(4, y.likes(0));
        due(6, y.count(0));
    }

    // ---- tokens and faults

    @Says(promise = TERMS, value = "TOKENS, as long as they go")
    static void tokensGoAsLongAsTheyCan() {
        NapkinDeeds x = told("cell1back23;guest45;likes:want;");
        due(1, x.cell(0, 0));
        due(23, x.cell(0, 1));
        due(45, x.likes(0));
        fault(2, 0, "cellback 1;");
        fault(2, 7, "cell 1 backs 1;");
        fault(2, 6, "worth:widehigh;");
        fault(2, 6, "worth:wi de;");
        fault(2, 8, "guest 1 2;");
    }

    @Says(promise = TERMS, value = "between them blanks (10, 32)")
    static void blanks() {
        due(2, tell(new NapkinDeeds(), "\n cell \n 1\nback  2 \n;guest\n3\n;\n "));
        for (char c : new char[] {0, 1, 9, 11, 13, 31, 33, 127, 133, 160, 255}) {
            fault(1, 5, "guest" + c + "3;");
        }
    }

    @Says(promise = TERMS, value = "words (small letters), N (1 to 3 digits), the signs ; : + - * ( ) [ ] = < >.")
    static void whatEachByteBegins() {
        for (char c = 0; c < 256; c++) {
            boolean token = c >= 'a' && c <= 'z' || c >= '0' && c <= '9' || ";:+-*()[]=<>".indexOf(c) >= 0;
            if (c != ' ' && c != '\n') {
                fault(token ? 2 : 1, 8, "guest 1;" + c + ";");
            }
        }
    }

    @Says(promise = TERMS, value = "N (1 to 3 digits)")
    static void oneToThreeDigits() {
        due(0, told("worth:0;").worth());
        due(999, told("worth:999;").worth());
        due(7, told("worth:007;").worth());
        due(0, told("worth:000;").worth());
        due(9, told("guest 009;likes:want;").likes(0));
        fault(1, 6, "worth:0000;");
    }

    @Says(promise = TERMS, value = "FAULTS, the first along the text, of one TOKEN the least kind")
    static void theFirstFaultAlongTheText() {
        fault(3, 5, "cell 100 back 12345;!");
        fault(2, 8, "guest 1 100;guest 100;");
        fault(1, 6, "guest 1234 guest");
        fault(1, 6, "guest ?100;");
        fault(4, 32, times(5, "guest 1;") + "guest 100;?");
    }

    @Says(promise = TERMS, value = "of one TOKEN the least kind")
    static void theLeastKindOfOneToken() {
        fault(1, 6, "worth 1000;");
        fault(1, 14, "cell 1 back 1 2000;");
        fault(2, 14, "cell 1 back 1 100;");
        fault(2, 7, "cell 1 100 back;");
        fault(2, 32, times(3, "guest 1;") + "guest 1 guest 1;");
        fault(2, 84, times(5, "cell 1 back 1;") + "cell 1 back 1 cell 1 back 1;");
        fault(2, 14, "holds:[[[[[[1=not 1=1]]]]]];");
        fault(2, 14, "holds:[[[[[[1=[1=1]]]]]]];");
        fault(2, 13, "worth:((((((1(1)))))));");
    }

    @Says(promise = TERMS, value = "1 no TOKEN begins so (4 digits and more: at their first).")
    static void fourDigitsAndMore() {
        fine("worth:999;");
        fault(1, 6, "worth:1000;");
        fault(1, 6, "worth:0001;");
        fault(1, 6, "guest 1234;");
        fault(1, 6, "guest 4294967297;");
        fault(1, 6, "guest " + times(40, "18446744073709551617") + ";");
        fault(1, 5, "cell 1000 back 1;");
    }

    @Says(promise = TERMS, value = "2 it can't stand there (the end: the text's length; a word of likes in another law).")
    static void theEndOfTheText() {
        for (String text : new String[] {"cell", "cell 1", "cell 1 back", "cell 1 back 1", "guest", "guest 1", "worth",
            "worth:", "worth:1", "worth:1+", "worth:(", "worth:(1", "holds", "holds:1", "holds:1=", "holds:1=1",
            "holds:1=1 or", "holds:1=1 and", "holds:not", "holds:[", "holds:[1=1", "likes:want*"}) {
            fault(2, text.length(), text);
            fault(2, text.length() + 3, text + " \n ");
            fault(2, text.length() + 8, "guest 1;" + text);
        }
    }

    @Says(promise = TERMS, value = "2 it can't stand there")
    static void unclosedAndUnopened() {
        fault(2, 7, "worth:1);");
        fault(2, 8, "worth:(1;");
        fault(2, 8, "worth:(1];");
        fault(2, 9, "holds:1=1];");
        fault(2, 10, "holds:[1=1;");
        fault(2, 10, "holds:[1=1);");
        fault(2, 8, "holds:(1=1);");
        fault(2, 6, "worth:[1=1];");
        fault(2, 6, "worth:not 1;");
        fault(2, 7, "likes:1=1;");
        fault(2, 13, "holds:1=1 or or 1=1;");
        fault(2, 8, "holds:1 not=1;");
    }

    @Says(promise = TERMS, value = "2 it can't stand there")
    static void wordsThatTheNapkinHasNot() {
        fault(2, 0, "napkin;");
        fault(2, 0, "a");
        fault(2, 0, "z");
        fault(2, 0, "cel 1 back 1;");
        fault(2, 0, "cells 1 back 1;");
        fault(2, 7, "cell 1 bac 1;");
        fault(2, 6, "worth:tops;");
        fault(2, 10, "holds:1=1 xor 1=1;");
    }

    @Says(promise = TERMS, value = "3 N is out of its bounds.")
    static void numbersOutOfTheirBounds() {
        fine("cell 99 back 99;guest 99;worth:999;");
        fault(3, 5, "cell 100 back 99;");
        fault(3, 13, "cell 99 back 100;");
        fault(3, 6, "guest 100;");
        fault(3, 6, "guest 999;");
    }

    @Says(promise = TERMS, value = "4 the first TOKEN of a 7th cell, a 5th guest; a seventh of not [ (.")
    static void oneTooMany() {
        fault(4, 84, times(7, "cell 1 back 1;"));
        fault(4, 32, times(5, "guest 1;"));
        fault(4, 30, "holds:" + times(7, "not ") + "1=1;");
        fault(4, 12, "holds:" + times(7, "[") + "1=1" + times(7, "]") + ";");
        fault(4, 12, "worth:" + times(7, "(") + "1" + times(7, ")") + ";");
        fine(times(6, "cell 1 back 1;") + times(4, "guest 1;"));
    }

    // ---- promise 1

    @Says(promise = 1, value = "No CELLS, no GUESTS; TRAYS are MISSING; an empty tape.")
    static void aNewObject() {
        NapkinDeeds x = new NapkinDeeds();
        for (int what = 0; what <= 10; what++) {
            due(0, x.count(what));
        }
        for (int tray = 0; tray < 4; tray++) {
            int missing = tray;
            due(STATE.getName(), thrown(x, y -> y.copy(missing)));
        }
        due("", lies(x));
        due(0, x.worth());
        dueFalse(x.holds());
        due(ARGUMENT.getName(), thrown(x, y -> y.napkin(1)));
        due(0, x.napkin(0));
    }

    // ---- promise 2

    @Says(promise = 2, value = "Twenty bytes come behind those on the tape, the highest of each int first: how many it has")
    static void theOrderOfTheBytes() {
        NapkinDeeds x = new NapkinDeeds();
        due(20, x.feed(0x67756573, 0x74203132, 0x3B677565, 0x73742033, 0x343B6C69));
        due(40, x.feed(0x6B65733A, 0x77616E74, 0x3B202020, 0x20202020, 0xFF80FF80));
        due(3, x.napkin(36));
        due(12, x.likes(0));
        due(34, x.likes(1));
        x.feed(0x20202020, 0x20202020, 0x20202020, 0x20202020, 0x202020FF);
        due(-11, x.napkin(20));
        due(19, x.fault(1));
        x.feed(0x80202020, 0, 0, 0, 0);
        due(-11, x.napkin(20));
        due(0, x.fault(1));
    }

    @Says(promise = 2, value = "NONE, and nothing changes, if there would be more than 900.")
    static void aFullTape() {
        NapkinDeeds x = fullTape();
        due(900, x.count(10));
        due(-1, x.feed(1, 2, 3, 4, 5));
        due(900, x.count(10));
        due(1, x.napkin(900));
        due(20, x.feed(1, 2, 3, 4, 5));
        nothingHappens(-1, TextEdges::fullTape, y -> y.feed(0x41414141, 0x41414141, 0x41414141, 0x41414141, 0x41414141));
    }

    private static NapkinDeeds fullTape() {
        NapkinDeeds x = told(STRIP);
        for (int bytes = 20; bytes <= 880; bytes += 20) {
            due(bytes, x.feed(0x20202020, 0x20202020, 0x20202020, 0x20202020, 0x20202020));
        }
        due(900, x.feed(0x20202020, 0x20202020, 0x20202067, 0x75657374, 0x2020313B));
        return x;
    }

    // ---- promise 3

    @Says(promise = 3, value = "The first n bytes of the tape (which is empty then) are THE NAPKIN, FLAT, no DEEDS: how many LINES")
    static void theFirstBytesOfTheTape() {
        NapkinDeeds x = folded(told(STRIP + "guest 1;"), 10);
        feed(x, "cell 1 back 2;guest 3;guest 4;");
        due(2, x.napkin(22));
        due(0, x.count(10));
        due(1, x.count(2));
        due("0", lies(x));
        due(0, x.count(5));
        due(0, x.count(9));
        due(0, x.worth());
        due(0, x.napkin(0));
        due(0, x.count(0));
        due(0, x.count(1));
        due(0, x.count(2));
    }

    @Says(promise = 3, value = "-10 less the FAULT (all else stays).")
    static void aFaultChangesNothingElse() {
        String[] faulty = {"?", "cell", "guest 100;", times(5, "guest 1;")};
        for (int kind = 1; kind <= 4; kind++) {
            NapkinDeeds x = used();
            String text = "cell 1 back 1;worth:1;" + faulty[kind - 1];
            due(-10 - kind, tell(x, text));
            due(0, x.count(10));
            due(kind, x.fault(0));
            due(Probe.butFault(used()), Probe.butFault(x));
        }
    }

    @Says(promise = 3, value = "IllegalArgumentException: n is below 0 or above what it has.")
    static void bytesThatTheTapeHasNot() {
        refused(ARGUMENT, x -> x.napkin(-1));
        refused(ARGUMENT, x -> x.napkin(x.count(10) + 1));
        refused(ARGUMENT, x -> x.napkin(LEAST));
        refused(ARGUMENT, x -> x.napkin(MOST));
        refused(ARGUMENT, NapkinDeeds::new, x -> x.napkin(1));
        refused(ARGUMENT, TextEdges::fullTape, x -> x.napkin(901));
        NapkinDeeds x = new NapkinDeeds();
        feed(x, "worth:1;worth:2;    ");
        due(2, x.napkin(20));
        due(0, x.napkin(0));
    }

    // ---- promise 4

    @Says(promise = 4, value = "Of the latest napkin() that threw nothing, what 0: the FAULT (0 without, and at first)")
    static void theFaultOfTheLatestNapkin() {
        NapkinDeeds x = new NapkinDeeds();
        due(0, x.fault(0));
        due(-13, tell(x, "guest 100;"));
        due(3, x.fault(0));
        due(ARGUMENT.getName(), thrown(x, y -> y.napkin(1)));
        due(3, x.fault(0));
        due(6, x.fault(1));
        due(-12, tell(x, "x"));
        due(2, x.fault(0));
        due(1, tell(x, "guest 10;"));
        due(0, x.fault(0));
    }

    @Says(promise = 4, value = "1: its place (NONE without).")
    static void thePlaceOfTheFault() {
        NapkinDeeds x = new NapkinDeeds();
        due(-1, x.fault(1));
        tell(x, "?");
        due(0, x.fault(1));
        tell(x, "guest 100;");
        due(6, x.fault(1));
        tell(x, "guest 1;");
        due(-1, x.fault(1));
        String text = times(899, " ") + "?";
        tell(x, text);
        due(899, x.fault(1));
        tell(x, times(893, " ") + "guest 1");
        due(900, x.fault(1));
    }

    @Says(promise = 4, value = "NONE for others.")
    static void otherQuestionsOfTheFault() {
        NapkinDeeds x = new NapkinDeeds();
        tell(x, "guest 100;");
        for (int what : new int[] {-1, 2, 3, LEAST, MOST}) {
            due(-1, x.fault(what));
        }
    }
}
